/-! The tables are right: new objects, arrays, constants, calls, throws, catches. -/
theorem mmap_some {α β : Type} {x : Option α} {f : α → β} {y : β} (h : x.map f = some y) : ∃ a, x = some a ∧ f a = y := by
  cases x with
  | none => cases h
  | some a => exact ⟨a, rfl, Option.some.inj h⟩
def ckN (e : (Nat × Nat) × (Nat × Nat × Nat × Nat)) : Bool := match tbCl[e.2.1]? with
  | some c => hasG e.2.2.1 (.classLink (tbOn e.1.1) e.1.2 c.1) && hasG e.2.2.2.1 (.instantiable c.1 c.2.length) && hasG e.2.2.2.2 (.initialized c.1) && (List.range c.2.length).all (fun j => decide (defaultValue (c.2.getD j tbFd).2.2.2.1 = vp_V (c.2.map fun f => f.2.2.2.2.1) j)) && c.2.all (fun f => match f.2.2.2.2.1 with
    | .ref _ => false
    | _ => true)
  | none => false
set_option maxRecDepth 100000 in
theorem ckN_all : tbN.all ckN = true := by decide +kernel
theorem tb_okN : okN tbP tbCv tbOn WTs := by
  intro o i ci k fs h
  obtain ⟨e, hm, he⟩ := mmap_some (show (mlk tbN o i).map (fun e => (e.1, (tbCi e.1).2.length, (tbCi e.1).2.map fun f => f.2.2.2.2.1)) = some (ci, k, fs) from h)
  cases he
  have hc := List.all_eq_true.mp ckN_all _ (mlk_in _ hm)
  unfold ckN at hc
  split at hc
  · next c hcl =>
    obtain ⟨h1, h2⟩ := tbCv_at hcl
    have h2 : tbCi e.1 = c := h2
    simp only [Bool.and_eq_true] at hc
    obtain ⟨⟨⟨⟨c1, c2⟩, c3⟩, c4⟩, c5⟩ := hc
    rw [h2]
    refine ⟨c.1, (tbC1 c).2.1, h1, hasG_in c1, hasG_in c2, hasG_in c3, fun j hj => ?_, fun b sz => ?_⟩
    · have := of_decide_eq_true (List.all_eq_true.mp c4 j (List.mem_range.mpr hj))
      show defaultValue ((tbCi e.1).2.getD j tbFd).2.2.2.1 = _
      rw [h2]
      exact this
    · rw [List.map_map]
      refine List.map_congr_left fun f hf => ?_
      have := List.all_eq_true.mp c5 f hf
      show mcv b sz f.2.2.2.2.1 = f.2.2.2.2.1
      cases hv : f.2.2.2.2.1 <;> first | rfl | (rw [hv] at this; cases this)
  · cases hc
def ckA (e : (Nat × Nat) × (String × Nat × Nat)) : Bool := hasG e.2.2.1 (.classLink (tbOn e.1.1) e.1.2 e.2.1) && hasG e.2.2.2 (.arrayOver (.object e.2.1)) && decide (e.2.1 = "LogBroker$Log")
def tbTy : List FieldType := [.int, .long, .object "LogBroker$Log"]
set_option maxRecDepth 100000 in
theorem ckA_all : (tbA.all ckA && hasG tbAr.1 (.arrayClass .int) && hasG tbAr.2 (.arrayClass .long)) = true := by decide +kernel
theorem tb_okA : okA tbP tbTy tbOn WTs := by
  have h0 := ckA_all
  simp only [Bool.and_eq_true] at h0
  refine ⟨fun o i C h => ?_, hasG_in h0.1.2, hasG_in h0.2, by decide, by decide⟩
  obtain ⟨e, hm, he⟩ := mmap_some (show (mlk tbA o i).map (fun e => e.1) = some C from h)
  cases he
  have hc := List.all_eq_true.mp h0.1.1 _ (mlk_in _ hm)
  simp only [ckA, Bool.and_eq_true, decide_eq_true_eq] at hc
  refine ⟨hasG_in hc.1.1, hasG_in hc.1.2, ?_⟩
  rw [hc.2]
  decide
def ckC0 (e : (Nat × Nat) × (Value × Nat)) : Bool := match e.2.1 with
  | .int v => hasG e.2.2 (.constant (tbOn e.1.1) e.1.2 v)
  | .long v => hasG e.2.2 (.constantLong (tbOn e.1.1) e.1.2 v)
  | .null => decide ((tbOn e.1.1, e.1.2) ∈ tbSt)
  | _ => false
set_option maxRecDepth 100000 in
theorem ckC0_all : tbK.all ckC0 = true := by decide +kernel
theorem tb_okC : okC tbP tbOn WTs ∧ ∀ o q, mPk tbP o q = some .null → (tbOn o, q) ∈ tbSt := by
  refine ⟨⟨fun o i v h => ?_, fun o i v h => ?_⟩, fun o i h => ?_⟩ <;>
    (obtain ⟨e, hm, he⟩ := mmap_some (show (mlk tbK o i).map (fun e => e.1) = some _ from h)
     have hc := List.all_eq_true.mp ckC0_all _ (mlk_in _ hm)
     unfold ckC0 at hc
     have he : e.1 = _ := he
     simp only [he] at hc
     first | exact hasG_in hc | exact of_decide_eq_true hc)
def ckJ (j : Nat) : Bool := decide (j < 161) && plainFor (tbMi j).1 && decide ((tbMi j).1.cls = tbOn (tbMi j).2.2.2.2.2.2.1) && (!(tbMi j).2.2.2.2.2.2.2.1 || decide ((tbMi j).1.name = "<init>")) && decide ((tbMi j).1.cls ≠ "java/lang/invoke/MethodHandle") && decide ((tbMi j).1.cls ≠ "java/lang/invoke/VarHandle")
def ckC (e : (Nat × Nat) × ((Nat × Nat × Nat) × (Nat × String) × Nat × Nat)) : Bool := if e.2.1.2.2 = 3 then hasG e.2.2.1.1 (.methodLink (tbOn e.1.1) e.1.2 Lib.objectInit) && hasG e.2.2.2.1 (.instanceMethod Lib.objectInit) && hasG e.2.2.2.2 (.code Lib.objectInit ⟨#[0xb1]⟩ 1 none)
  else ckJ e.2.1.1 && decide ((parseMethodDescriptor (tbY e.2.1.1).desc).map (fun d => d.parameters.length) = some e.2.1.2.1) && (if e.2.2.1.2 = "" then hasG e.2.2.1.1 (.methodLink (tbOn e.1.1) e.1.2 (tbY e.2.1.1)) else hasG e.2.2.1.1 (.methodLinkNest (tbOn e.1.1) e.1.2 (tbY e.2.1.1) e.2.2.1.2)) &&
    match e.2.1.2.2 with
    | 0 => hasG e.2.2.2.1 (.static (tbY e.2.1.1)) && hasG e.2.2.2.2 (.initialized (tbY e.2.1.1).cls)
    | 1 => hasG e.2.2.2.1 (.instanceMethod (tbY e.2.1.1)) && match tbCl[(tbMi e.2.1.1).2.2.2.2.2.2.2.2.2]? with
      | some c => hasG e.2.2.2.2 (.selects c.1 (tbY e.2.1.1) (tbY e.2.1.1))
      | none => false
    | 2 => decide ((tbY e.2.1.1).name = "<init>") && hasG e.2.2.2.1 (.instanceMethod (tbY e.2.1.1)) && decide ((tbMi e.2.1.1).2.2.2.1 = none) && decide ((tbMi e.2.1.1).2.2.2.2.1 = [])
    | _ => false
set_option maxRecDepth 100000 in
theorem ckC_all : tbC.all ckC = true := by decide +kernel
theorem ckJ_ok {j : Nat} (h : ckJ j = true) : okJ tbP tbOn tbY WTs j ∧ ((tbY j).cls ≠ "java/lang/invoke/MethodHandle" ∧ (tbY j).cls ≠ "java/lang/invoke/VarHandle") ∧ cwP j := by
  simp only [ckJ, Bool.and_eq_true, Bool.or_eq_true, decide_eq_true_eq, Bool.not_eq_true'] at h
  obtain ⟨⟨⟨⟨⟨h1, h2⟩, h3⟩, h4⟩, h5⟩, h6⟩ := h
  have hc := cw_all j h1
  refine ⟨⟨?_, h2, h3, fun hz => h4.resolve_left (fun hn => ?_)⟩, ⟨h5, h6⟩, hc⟩
  · rcases hc with ⟨q1, q2⟩ | ⟨q1, q2⟩
    · exact Or.inr ⟨q2, q1⟩
    · exact Or.inl q2
  · have hz : (tbMi j).2.2.2.2.2.2.2.1 = true := hz
    rw [hn] at hz
    cases hz
theorem tb_okM : okM tbP tbCv tbOn tbY WTs := by
  constructor
  · intro o i j k kind h hk
    obtain ⟨e, hm, he⟩ := mmap_some (show (mlk tbC o i).map (fun e => e.1) = some (j, k, kind) from h)
    have hc := List.all_eq_true.mp ckC_all _ (mlk_in _ hm)
    obtain ⟨⟨j', k', kind'⟩, ⟨w, host⟩, a, b⟩ := e
    cases he
    unfold ckC at hc
    simp only at hc
    rw [if_neg (by omega)] at hc
    simp only [Bool.and_eq_true, decide_eq_true_eq] at hc
    obtain ⟨⟨⟨c1, c2⟩, c3⟩, c4⟩ := hc
    obtain ⟨oJ, hy, hcw⟩ := ckJ_ok c1
    refine ⟨oJ, hy, c2, ?_, fun h0 => ?_, fun h0 => ?_, fun h0 => ?_⟩
    · split at c3
      · exact Or.inl (hasG_in c3)
      · exact Or.inr ⟨_, hasG_in c3⟩
    · subst h0
      simp only [Bool.and_eq_true] at c4
      exact ⟨hasG_in c4.1, hasG_in c4.2⟩
    · subst h0
      simp only [Bool.and_eq_true] at c4
      have c5 := c4.2
      split at c5
      · next c hcl => exact ⟨hasG_in c4.1, _, (tbCv_at hcl).1, hasG_in c5⟩
      · cases c5
    · subst h0
      simp only [Bool.and_eq_true, decide_eq_true_eq] at c4
      obtain ⟨⟨⟨d1, d2⟩, d3⟩, d4⟩ := c4
      refine ⟨d1, hasG_in d2, ?_, d3⟩
      rcases hcw with ⟨-, h1⟩ | ⟨h1, -⟩
      · have d3' : mPr tbP j = none := d3
        rw [d3'] at h1
        exact h1
      · exact absurd d4 h1
  · intro o i j k h
    obtain ⟨e, hm, he⟩ := mmap_some (show (mlk tbC o i).map (fun e => e.1) = some (j, k, 3) from h)
    have hc := List.all_eq_true.mp ckC_all _ (mlk_in _ hm)
    obtain ⟨⟨j', k', kind'⟩, ⟨w, host⟩, a, b⟩ := e
    cases he
    unfold ckC at hc
    simp only [if_pos, Bool.and_eq_true] at hc
    exact ⟨hasG_in hc.1.1, hasG_in hc.1.2, hasG_in hc.2⟩
