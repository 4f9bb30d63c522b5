/-! Well-formed disks: an append. -/
/-- what a slot says is the same -/
def SmM (D D' : Nat → Nat) (s : Nat) : Prop := (∀ i, i < 8 → ¬ i = 2 → ¬ i = 3 → D' (128 * s + i) = D (128 * s + i)) ∧ ∀ i, 8 ≤ i → i < mB D s → D' (128 * s + i) = D (128 * s + i)
theorem SmM_hd {D D' : Nat → Nat} {s : Nat} (h : SmM D D' s) : mB D' s = mB D s ∧ bB D' s = bB D s := hd_same h.1
theorem SmM_WS {D D' : Nat → Nat} {s c : Nat} (h : SmM D D' s) (hW : WS D s c) : WS D' s c := WS_same hW h.2 (SmM_hd h).1
theorem SmM_sRs {D D' : Nat → Nat} {s c : Nat} (h : SmM D D' s) (hW : WS D s c) : sRs D' s c = sRs D s c := sRs_same hW h.2 (SmM_hd h).2
theorem WL_sameM {D D' : Nat → Nat} {l n N : Nat} {f bc : Nat → Nat} (h : WL D l f bc n N) (ho : ∀ s, s < 16 → (oB D' s = l + 1 ↔ oB D s = l + 1)) (hs : ∀ s, s < 16 → oB D s = l + 1 → SmM D D' s) : WL D' l f bc n N := by
  have hk : ∀ k, k < n → SmM D D' (f k) := fun k hk => hs _ (h.1.1 k hk).1 (h.1.1 k hk).2.1
  refine ⟨⟨fun k hk' => ?_, fun s h1 h2 => h.1.2.1 s h1 ((ho s h1).mp h2), fun i j hij hj => ?_⟩, fun k hk' => SmM_WS (hk k hk') (h.2.1 k hk'), LO_ext h.2.2 (fun k hk' => (SmM_hd (hk k hk')).2) (fun k hk' => SmM_sRs (hk k hk') (h.2.1 k hk'))⟩
  · have h1 := h.1.1 k hk'
    exact ⟨h1.1, (ho _ h1.1).mpr h1.2.1, by rw [(SmM_hd (hk k hk')).2]; exact h1.2.2⟩
  · rw [(SmM_hd (hk i (by omega))).2, (SmM_hd (hk j hj)).2]
    exact h.1.2.2 i j hij hj
theorem spW_pre {s f e : Nat} {t : List Nat} : ∀ (z : Nat) {k j : Nat} {D : Nat → Nat} {x : Nat}, (x < 128 * s + k ∨ 128 * s + e ≤ x) → k ≤ e → dWs D ((spW s f e t z k).take j) x = D x
  | 0, k, j, D, x, h, hk => by
    show dWs D (([] : List WI).take j) x = D x
    rw [List.take_nil]
    rfl
  | z + 1, k, 0, D, x, h, hk => by
    rw [List.take_zero]
    rfl
  | z + 1, k, j + 1, D, x, h, hk => by
    by_cases hke : k < e
    · have e1 : spW s f e t (z + 1) k = wi (128 * s + k) (nK k e - k) (fun i => gB0 t (k - f + i)) :: spW s f e t z (nK k e) := if_pos hke
      have hn := nK_lt hke
      rw [e1, List.take_succ_cons]
      show dWs (dW D (128 * s + k) (nK k e - k) (fun i => gB0 t (k - f + i))) ((spW s f e t z (nK k e)).take j) x = D x
      rw [spW_pre z (by omega) hn.2]
      exact dW_out (by omega)
    · have e1 : spW s f e t (z + 1) k = [] := if_neg hke
      rw [e1, List.take_nil]
      rfl
/-- a batch behind the last one of slot s -/
theorem WS_add {D D' : Nat → Nat} {s c : Nat} {p q : Int32} {x : List R5} (hW : WS D s c) (hb : bB D' s = bB D s) (hm : mB D' s = mB D s + (eBt (nI (bB D s)) p q x).length) (hm128 : mB D' s ≤ 128) (hsm : ∀ i, 8 ≤ i → i < mB D s → D' (128 * s + i) = D (128 * s + i)) (hat : At D' (128 * s + mB D s) (eBt (nI (bB D s)) p q x)) (hx1 : 1 ≤ x.length) (hx4 : x.length ≤ 4) (hgd : ∀ r ∈ x, gd r) : WS D' s (c + 1) ∧ sRs D' s (c + 1) = sRs D s c ++ x := by
  have hs := s_same hW hsm
  have hc : sb D' s c = 128 * s + mB D s := (hs.1 c (Nat.le_refl _)).trans (WS_end hW)
  rw [← hc] at hat
  have hk := eBt_back2 hx1 hx4 hgd hat
  refine ⟨⟨hm128, ?_, fun i hi => ?_⟩, ?_⟩
  · show nb D' (sb D' s c) = _
    rw [hk.2.1, hc, hm]
    omega
  · by_cases h1 : i = c
    · rw [h1]
      exact hk.1
    · have h2 : WB D' (sb D' s i) := by
        rw [hs.1 i (by omega)]
        exact SB_WB (WS_b hW (by omega)) (hs.2 i (by omega))
      exact h2
  · rw [sRs_succ, hb, hk.2.2, sRs_same hW hsm hb]
theorem nmb_gd {l : List R5} (h : ∀ r ∈ l, gd r) : ∀ N, ∀ r ∈ nmb N l, gd r := by
  induction l with
  | nil => exact fun N r hr => absurd hr (List.not_mem_nil)
  | cons a t ih =>
    intro N r hr
    rcases List.mem_cons.mp (show r ∈ (nI N, a.2) :: nmb (N + 1) t from hr) with h1 | h1
    · rw [h1]
      exact h a (List.mem_cons_self ..)
    · exact ih (fun x hx => h x (List.mem_cons_of_mem _ hx)) (N + 1) r h1
theorem nmb_key {l : List R5} (h : ∀ r ∈ l, ∃ q, q < 32 ∧ r.2.2.1 = nI q) : ∀ N, ∀ r ∈ nmb N l, ∃ q, q < 32 ∧ r.2.2.1 = nI q := by
  induction l with
  | nil => exact fun N r hr => absurd hr (List.not_mem_nil)
  | cons a t ih =>
    intro N r hr
    rcases List.mem_cons.mp (show r ∈ (nI N, a.2) :: nmb (N + 1) t from hr) with h1 | h1
    · rw [h1]
      exact h a (List.mem_cons_self ..)
    · exact ih (fun x hx => h x (List.mem_cons_of_mem _ hx)) (N + 1) r h1
/-- the bytes of an append to slot s, all of them written -/
theorem apW_D {D : Nat → Nat} {s m : Nat} {t : List Nat} (hs : s < 16) (hm : 8 ≤ m) (hmt : m + t.length ≤ 128) : (∀ x, (x < 128 * s ∨ 128 * s + 128 ≤ x) → dWs D (apW s m t) x = D x) ∧ (∀ i, 2 ≤ i → i < m → dWs D (apW s m t) (128 * s + i) = D (128 * s + i)) ∧ At (dWs D (apW s m t)) (128 * s + m) t ∧ mB (dWs D (apW s m t)) s = m + t.length := by
  have e : dWs D (apW s m t) = dW (dWs D (spW s m (m + t.length) t 4 m)) (128 * s) 2 (gB0 [(m + t.length) / 2 ^ 8 % 256, (m + t.length) / 2 ^ 0 % 256]) := by
    unfold apW
    rw [dWs_app]
    rfl
  have h1 : ∀ x, dWs D (spW s m (m + t.length) t 4 m) x = if 128 * s + m ≤ x ∧ x < 128 * s + (m + t.length) then gB0 t (x - 128 * s - m) else D x := spW_D 4 (Nat.le_refl m) (Nat.le_add_right _ _) (fun _ => by omega)
  rw [e]
  refine ⟨fun x hx => ?_, fun i h2 hi => ?_, fun i hi => ?_, ?_⟩
  · rw [dW_out (by omega), h1, if_neg (by omega)]
  · rw [dW_out (by omega), h1, if_neg (by omega)]
  · rw [dW_out (by omega), h1, if_pos (by omega), show 128 * s + m + i - 128 * s - m = i by omega]
  · have a0 : dW (dWs D (spW s m (m + t.length) t 4 m)) (128 * s) 2 (gB0 [(m + t.length) / 2 ^ 8 % 256, (m + t.length) / 2 ^ 0 % 256]) (128 * s) = (m + t.length) / 2 ^ 8 % 256 := dW_in (p := 128 * s) (i := 0) (by decide)
    have a1 : dW (dWs D (spW s m (m + t.length) t 4 m)) (128 * s) 2 (gB0 [(m + t.length) / 2 ^ 8 % 256, (m + t.length) / 2 ^ 0 % 256]) (128 * s + 1) = (m + t.length) / 2 ^ 0 % 256 := dW_in (i := 1) (by decide)
    show dW _ _ _ _ (128 * s) * 256 + dW _ _ _ _ (128 * s + 1) = _
    rw [a0, a1]
    generalize m + t.length = y at hmt
    omega
/-- an append to the last slot of log l: whole -/
theorem WFD_add {D : Nat → Nat} {F : Nat → Nat → Nat} {bc c N : Nat → Nat} {l : Nat} {p q : Int32} {x : List R5} (h : WFD D F bc c N) (hl : l < 4) (hc : 0 < c l) (hx1 : 1 ≤ x.length) (hx4 : x.length ≤ 4) (hgd : ∀ r ∈ x, gd r) (hnum : ∀ k, k < x.length → (gR x k).1 = nI (N l + k)) (hkey : l = 3 → ∀ r ∈ x, ∃ y, y < 32 ∧ r.2.2.1 = nI y) (hN : N l + x.length < 2 ^ 32) (hfit : mB D (F l (c l - 1)) + (eBt (nI (bB D (F l (c l - 1)))) p q x).length ≤ 128) :
    WFD (dWs D (apW (F l (c l - 1)) (mB D (F l (c l - 1))) (eBt (nI (bB D (F l (c l - 1)))) p q x))) F (fun y => if y = F l (c l - 1) then bc y + 1 else bc y) c (fun y => if y = l then N y + x.length else N y) := by
  obtain ⟨s, hs⟩ : ∃ s, s = F l (c l - 1) := ⟨_, rfl⟩
  rw [← hs] at hfit ⊢
  have hWl := h.1 l hl
  have hsl := hWl.1.1 (c l - 1) (by omega)
  rw [← hs] at hsl
  have hWs := hWl.2.1 (c l - 1) (by omega)
  rw [← hs] at hWs
  have h8 := WS_8 hWs
  have hd := apW_D (D := D) (t := eBt (nI (bB D s)) p q x) hsl.1 (by omega) hfit
  obtain ⟨D', hD'⟩ : ∃ D', D' = dWs D (apW s (mB D s) (eBt (nI (bB D s)) p q x)) := ⟨_, rfl⟩
  rw [← hD'] at hd ⊢
  have ho : ∀ t, t < 16 → oB D' t = oB D t := fun t ht => by
    by_cases e : t = s
    · rw [e]
      exact hd.2.1 2 (by decide) (by omega)
    · exact hd.1 _ (by omega)
  have hoth : ∀ t, t < 16 → ¬ t = s → mB D t ≤ 128 → SmM D D' t := fun t ht hts hm => ⟨fun i hi _ _ => hd.1 _ (by omega), fun i hi1 hi2 => hd.1 _ (by omega)⟩
  have hbs : bB D' s = bB D s := by
    show D' (128 * s + 4) * 2 ^ 24 + D' (128 * s + 5) * 2 ^ 16 + D' (128 * s + 6) * 2 ^ 8 + D' (128 * s + 7) = _
    rw [hd.2.1 4 (by decide) (by omega), hd.2.1 5 (by decide) (by omega), hd.2.1 6 (by decide) (by omega), hd.2.1 7 (by decide) (by omega)]
    rfl
  have hadd := WS_add (D' := D') hWs hbs hd.2.2.2 (by rw [hd.2.2.2]; exact hfit) (fun i h1 h2 => hd.2.1 i (by omega) h2) hd.2.2.1 hx1 hx4 hgd
  have hne : ∀ k, k < c l → ¬ k = c l - 1 → ¬ F l k = s := fun k hk hkn e => hkn (SG_inj hWl.1 hk (by omega) (e.trans hs))
  have hSl : ∀ k, k < c l → ¬ k = c l - 1 → SmM D D' (F l k) := fun k hk hkn => hoth _ (hWl.1.1 k hk).1 (hne k hk hkn) (WS_128 (hWl.2.1 k hk))
  have hbb : ∀ k, k < c l → bB D' (F l k) = bB D (F l k) := fun k hk => by
    by_cases e : k = c l - 1
    · rw [e, ← hs]
      exact hbs
    · exact (SmM_hd (hSl k hk e)).2
  refine ⟨fun y hy => ?_, fun t ht => by rw [ho t ht]; exact h.2 t ht⟩
  by_cases hyl : y = l
  · subst hyl
    show WL D' y (F y) (fun z => if z = s then bc z + 1 else bc z) (c y) (if y = y then N y + x.length else N y)
    rw [if_pos rfl]
    refine ⟨⟨fun k hk => ?_, fun t ht hto => hWl.1.2.1 t ht (by rw [← ho t ht]; exact hto), fun i j hij hj => ?_⟩, fun k hk => ?_, ?_⟩
    · have h1 := hWl.1.1 k hk
      exact ⟨h1.1, by rw [ho _ h1.1]; exact h1.2.1, by rw [hbb k hk]; exact h1.2.2⟩
    · rw [hbb i (by omega), hbb j hj]
      exact hWl.1.2.2 i j hij hj
    · show WS D' (F y k) (if F y k = s then bc (F y k) + 1 else bc (F y k))
      by_cases e : k = c y - 1
      · rw [e, ← hs, if_pos rfl]
        have h1 := hadd.1
        rw [hs] at h1 ⊢
        exact h1
      · rw [if_neg (hne k hk e)]
        exact SmM_WS (hSl k hk e) (hWl.2.1 k hk)
    · refine LO_add hWl.2.2 hc hbb (fun k hk => ?_) ?_ (by omega) hN hnum hkey
      · show sRs D' (F y k) (if F y k = s then bc (F y k) + 1 else bc (F y k)) = _
        rw [if_neg (hne k (by omega) (by omega))]
        exact SmM_sRs (hSl k (by omega) (by omega)) (hWl.2.1 k (by omega))
      · show sRs D' (F y (c y - 1)) (if F y (c y - 1) = s then bc (F y (c y - 1)) + 1 else bc (F y (c y - 1))) = sRs D (F y (c y - 1)) (bc (F y (c y - 1))) ++ x
        rw [← hs, if_pos rfl]
        exact hadd.2
  · show WL D' y (F y) (fun z => if z = s then bc z + 1 else bc z) (c y) (if y = l then N y + x.length else N y)
    rw [if_neg hyl]
    have hWy := h.1 y hy
    have hn : ∀ k, k < c y → ¬ F y k = s := fun k hk e => by
      have h1 := (hWy.1.1 k hk).2.1
      rw [e, hsl.2.1] at h1
      omega
    refine WL_bc (WL_sameM hWy (fun t ht => by rw [ho t ht]) (fun t ht hto => ?_)) (fun k hk => if_neg (hn k hk))
    obtain ⟨k, hk, e⟩ := hWy.1.2.1 t ht hto
    rw [← e]
    exact hoth _ (hWy.1.1 k hk).1 (hn k hk) (WS_128 (hWy.2.1 k hk))
/-- .. and cut off before its mark -/
theorem WFD_pre {D : Nat → Nat} {F : Nat → Nat → Nat} {bc c N : Nat → Nat} {l j : Nat} {t : List Nat} (h : WFD D F bc c N) (hl : l < 4) (hc : 0 < c l) (hfit : mB D (F l (c l - 1)) + t.length ≤ 128) (hj : j < (apW (F l (c l - 1)) (mB D (F l (c l - 1))) t).length) :
    WFD (dWs D ((apW (F l (c l - 1)) (mB D (F l (c l - 1))) t).take j)) F bc c N := by
  obtain ⟨s, hs⟩ : ∃ s, s = F l (c l - 1) := ⟨_, rfl⟩
  rw [← hs] at hfit hj ⊢
  have hWl := h.1 l hl
  have hsl := hWl.1.1 (c l - 1) (by omega)
  rw [← hs] at hsl
  have hWs := hWl.2.1 (c l - 1) (by omega)
  rw [← hs] at hWs
  have h8 := WS_8 hWs
  have e1 : (apW s (mB D s) t).take j = (spW s (mB D s) (mB D s + t.length) t 4 (mB D s)).take j := by
    unfold apW at hj ⊢
    rw [List.length_append] at hj
    have h1 : j ≤ (spW s (mB D s) (mB D s + t.length) t 4 (mB D s)).length := by
      have h2 : ([mkW s (mB D s + t.length)] : List WI).length = 1 := rfl
      rw [h2] at hj
      omega
    rw [List.take_append_of_le_length h1]
  rw [e1]
  have hd : ∀ x, (x < 128 * s + mB D s ∨ 128 * s + (mB D s + t.length) ≤ x) → dWs D ((spW s (mB D s) (mB D s + t.length) t 4 (mB D s)).take j) x = D x := fun x hx => spW_pre 4 hx (Nat.le_add_right _ _)
  obtain ⟨D', hD'⟩ : ∃ D', D' = dWs D ((spW s (mB D s) (mB D s + t.length) t 4 (mB D s)).take j) := ⟨_, rfl⟩
  rw [← hD'] at hd ⊢
  have ho : ∀ t, t < 16 → oB D' t = oB D t := fun t ht => hd _ (by omega)
  refine ⟨fun y hy => ?_, fun t ht => by rw [ho t ht]; exact h.2 t ht⟩
  have hWy := h.1 y hy
  refine WL_sameM hWy (fun t ht => by rw [ho t ht]) (fun t ht hto => ?_)
  obtain ⟨k, hk, e⟩ := hWy.1.2.1 t ht hto
  have hm := WS_128 (hWy.2.1 k hk)
  rw [e] at hm
  by_cases hts : t = s
  · subst hts
    exact ⟨fun i hi _ _ => hd _ (by omega), fun i h1 h2 => hd _ (by omega)⟩
  · exact ⟨fun i hi _ _ => hd _ (by omega), fun i h1 h2 => hd _ (by omega)⟩
