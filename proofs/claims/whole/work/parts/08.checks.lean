/-! The tables are right: checked by evaluation. -/
def mlk {α : Type} : List ((Nat × Nat) × α) → Nat → Nat → Option α
  | [], _, _ => none
  | e :: t, o, i => if e.1.1 = o ∧ e.1.2 = i then some e.2 else mlk t o i
theorem mlk_in {α : Type} : ∀ (l : List ((Nat × Nat) × α)) {o i : Nat} {v : α}, mlk l o i = some v → ((o, i), v) ∈ l
  | [], _, _, _, h => by cases h
  | e :: t, o, i, v, h => by
    simp only [mlk] at h
    split at h
    · next hc =>
      cases h
      obtain ⟨⟨a, b⟩, w⟩ := e
      obtain ⟨rfl, rfl⟩ := hc
      exact List.mem_cons_self
    · exact List.mem_cons_of_mem _ (mlk_in t h)
def mlk1 {α : Type} : List (Nat × α) → Nat → Option α
  | [], _ => none
  | e :: t, i => if e.1 = i then some e.2 else mlk1 t i
theorem mlk1_in {α : Type} : ∀ (l : List (Nat × α)) {i : Nat} {v : α}, mlk1 l i = some v → (i, v) ∈ l
  | [], _, _, h => by cases h
  | e :: t, i, v, h => by
    simp only [mlk1] at h
    split at h
    · next hc =>
      cases h
      obtain ⟨a, w⟩ := e
      cases hc
      exact List.mem_cons_self
    · exact List.mem_cons_of_mem _ (mlk1_in t h)
def tbOn (o : Nat) : String := tbOnl.getD o ""
def tbFd : String × String × Bool × FieldType × Value × Nat := ("", "", false, .int, .null, 0)
def tbC1 (c : String × List (String × String × Bool × FieldType × Value × Nat)) : vw_C := (c.1, (fun k => (c.1, (c.2.getD k tbFd).1, (c.2.getD k tbFd).2.1, (c.2.getD k tbFd).2.2.1)), c.2.length)
def tbCv : List vw_C := tbCl.map tbC1
def tbCi (ci : Nat) : String × List (String × String × Bool × FieldType × Value × Nat) := tbCl.getD ci ("", [])
def tbMi (j : Nat) : tbMr := tbM.getD j (⟨"", "", ""⟩, ⟨#[]⟩, 0, none, [], 0, 0, false, (0, 0), 0)
def tbP : mP := (fun j => (tbMi j).2.1, fun j => (tbMi j).2.2.1, fun j => (tbMi j).2.2.2.2.2.2.1, fun j => (tbMi j).2.2.2.1, fun j => (tbMi j).2.2.2.2.1,
  fun o i => (mlk tbF o i).map fun e => (e.1, e.2.1), fun o i => (mlk tbC o i).map fun e => e.1, fun o i => (mlk tbN o i).map fun e => (e.1, (tbCi e.1).2.length, (tbCi e.1).2.map fun f => f.2.2.2.2.1), fun o i => (mlk tbA o i).map fun e => e.1, fun o i => (mlk tbK o i).map fun e => e.1,
  fun o i => (mlk tbX o i).map fun e => e.1, fun o t ci => match mlk tbT o t with
    | some e => decide (e.1 = ci)
    | none => false, fun j => (tbMi j).2.2.2.2.2.2.2.2.2, fun ci k => ((tbCi ci).2.getD k tbFd).2.2.2.1, fun ci => (tbCi ci).1, fun ci k => ((tbCi ci).2.getD k tbFd).2.2.1, fun j => (tbMi j).2.2.2.2.2.2.2.1, fun j => (tbMi j).2.2.2.2.2.2.2.2.1, fun j pc => mlk1 (tbCd.getD j []) pc)
def tbY (j : Nat) : MethodName := (tbMi j).1
def hasW (i : Nat) (w : Cond) : Bool := match lw_tbl[i]? with
  | some w' => decide (w' = w)
  | none => false
def mtrB (w : Cond) : Bool := (w.onTables && w.keepsFace) || match w with
  | .arrayClass _ => true
  | .fieldLinkNest _ _ _ _ _ _ => true
  | .methodLinkNest _ _ _ _ => true
  | .arrayOver (.object _) => true
  | _ => false
theorem mtrB_ok {w : Cond} (h : mtrB w = true) : mtr w := by
  unfold mtrB at h
  rw [Bool.or_eq_true] at h
  rcases h with h | h
  · exact Or.inl h
  · split at h
    · exact Or.inr (Or.inl ⟨_, rfl⟩)
    · exact Or.inr (Or.inr (Or.inl ⟨_, _, _, _, _, _, rfl⟩))
    · exact Or.inr (Or.inr (Or.inr (Or.inl ⟨_, _, _, _, rfl⟩)))
    · exact Or.inr (Or.inr (Or.inr (Or.inr ⟨_, rfl⟩)))
    · cases h
def WTs : List Cond := lw_tbl.filter mtrB
theorem WTs_tr : ∀ w ∈ WTs, mtr w := fun w hw => mtrB_ok (List.mem_filter.mp hw).2
def hasG (i : Nat) (w : Cond) : Bool := hasW i w && mtrB w
theorem hasG_in {i : Nat} {w : Cond} (h : hasG i w = true) : w ∈ WTs := by
  simp only [hasG, Bool.and_eq_true] at h
  refine List.mem_filter.mpr ⟨?_, h.2⟩
  have h1 := h.1
  unfold hasW at h1
  split at h1
  · next hw =>
    cases of_decide_eq_true h1
    exact List.mem_of_getElem? hw
  · cases h1
def ckF (e : (Nat × Nat) × (Nat × Nat × Nat × String)) : Bool := match tbCl[e.2.1]? with
  | some c => decide (e.2.2.1 < c.2.length) && (if e.2.2.2.2 = "" then hasG e.2.2.2.1 (.fieldLink (tbOn e.1.1) e.1.2 c.1 (c.2.getD e.2.2.1 tbFd).1 (c.2.getD e.2.2.1 tbFd).2.1) && (decide (e.1.1 ≠ e.2.1) || decide (tbOn e.1.1 = c.1)) else decide (e.1.1 ≠ e.2.1) && hasG e.2.2.2.1 (.fieldLinkNest (tbOn e.1.1) e.1.2 c.1 (c.2.getD e.2.2.1 tbFd).1 (c.2.getD e.2.2.1 tbFd).2.1 e.2.2.2.2))
  | none => false
set_option maxRecDepth 100000 in
theorem ckF_all : tbF.all ckF = true := by decide +kernel
theorem tbCv_at {ci : Nat} {c : String × List (String × String × Bool × FieldType × Value × Nat)} (h : tbCl[ci]? = some c) : tbCv[ci]? = some (tbC1 c) ∧ tbCi ci = c := by
  constructor
  · unfold tbCv
    rw [List.getElem?_map, h]
    rfl
  · unfold tbCi
    rw [List.getD_eq_getElem?_getD, h]
    rfl
theorem tb_okF : okF tbP tbCv tbOn WTs := by
  intro o i ci k h
  have h : (mlk tbF o i).map (fun e => (e.1, e.2.1)) = some (ci, k) := h
  cases hm : mlk tbF o i with
  | none => rw [hm] at h; cases h
  | some e =>
    rw [hm] at h
    cases h
    have hc := List.all_eq_true.mp ckF_all _ (mlk_in _ hm)
    unfold ckF at hc
    split at hc
    · next c hcl =>
      obtain ⟨h1, h2⟩ := tbCv_at hcl
      simp only [Bool.and_eq_true, decide_eq_true_eq] at hc
      refine ⟨_, _, _, h1, hc.1, rfl, ?_, ?_⟩
      · show (c.2.getD e.2.1 tbFd).2.2.1 = ((tbCi e.1).2.getD e.2.1 tbFd).2.2.1
        rw [h2]
      · have hc2 := hc.2
        split at hc2
        · simp only [Bool.and_eq_true, Bool.or_eq_true, decide_eq_true_eq] at hc2
          exact Or.inl ⟨hasG_in hc2.1, fun he => hc2.2.resolve_left (fun hn => hn he)⟩
        · simp only [Bool.and_eq_true, decide_eq_true_eq] at hc2
          exact Or.inr ⟨hc2.1, _, hasG_in hc2.2⟩
    · cases hc
def ckK (ci : Nat) : Bool := match tbCl[ci]? with
  | some c => (List.range c.2.length).all fun k => hasG (c.2.getD k tbFd).2.2.2.2.2 (u_lay c.1 (tbC1 c).2.1 k) && decide (parseFieldDescriptor (c.2.getD k tbFd).2.1 = some (c.2.getD k tbFd).2.2.2.1) && (List.range c.2.length).all fun b => decide (k = b) || decide ((c.2.getD k tbFd).1 ≠ (c.2.getD b tbFd).1)
  | none => true
set_option maxRecDepth 100000 in
theorem ckK_all : (List.range 13).all ckK = true := by decide +kernel
theorem tbCl_len : tbCl.length = 13 := by decide +kernel
theorem tb_okK : okK tbP tbCv WTs := by
  intro ci C T N h
  cases hm : tbCl[ci]? with
  | none =>
    unfold tbCv at h
    rw [List.getElem?_map, hm] at h
    cases h
  | some c =>
    obtain ⟨h1, h2⟩ := tbCv_at hm
    cases h1.symm.trans h
    have hlt : ci < 13 := by rw [← tbCl_len]; exact (List.getElem?_eq_some_iff.mp hm).1
    have hc := List.all_eq_true.mp ckK_all ci (List.mem_range.mpr hlt)
    unfold ckK at hc
    rw [hm] at hc
    have hc : ∀ k ∈ List.range c.2.length, _ = true := List.all_eq_true.mp hc
    refine ⟨fun w hw => ?_, fun k hk => ?_, fun a ha b hb hne => ?_, ?_⟩
    · obtain ⟨k, hk, rfl⟩ := List.mem_map.mp hw
      have := hc k hk
      simp only [Bool.and_eq_true] at this
      exact hasG_in this.1.1
    · have := hc k (List.mem_range.mpr hk)
      simp only [Bool.and_eq_true, decide_eq_true_eq] at this
      show parseFieldDescriptor (c.2.getD k tbFd).2.1 = some ((tbCi ci).2.getD k tbFd).2.2.2.1
      rw [h2]
      exact this.1.2
    · have := hc a (List.mem_range.mpr ha)
      simp only [Bool.and_eq_true] at this
      have h3 := List.all_eq_true.mp this.2 b (List.mem_range.mpr hb)
      simp only [Bool.or_eq_true, decide_eq_true_eq] at h3
      exact h3.resolve_left hne
    · show (tbCi ci).1 = c.1
      rw [h2]
