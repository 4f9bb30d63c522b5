/-! The tables are right: what is thrown and what is caught. -/
def tbNames : List String := ["java/lang/RuntimeException", "java/lang/Exception"]
def ckX (e : (Nat × Nat) × ((Nat × Nat × Nat) × Nat × Nat × Nat)) : Bool := match tbCl[e.2.1.1]? with
  | some c => decide (c.2.length = 0) && decide (e.2.1.2.1 = 6) && Bundle.fit c.1 && tbNames.all Bundle.fit && hasG e.2.2.1 (.classLink (tbOn e.1.1) e.1.2 c.1) && hasG e.2.2.2.1 (.instantiable c.1 6) && hasG e.2.2.2.2 (.initialized c.1) &&
    (Bundle.ownAtoms (tbOn e.1.1) e.2.1.2.2 c.1 tbNames).all (fun w => decide (w ∈ mZw) || (decide (w ∈ lw_tbl) && mtrB w))
  | none => false
set_option maxRecDepth 100000 in
theorem ckX_all : tbX.all ckX = true := by decide +kernel
theorem tb_okXs {G : mG} (hgc : gc G = tbCv) (hgs : gS G = tbSt) : okXs G tbP tbOn WTs := by
  refine ⟨fun o i ci k z h => ?_, fun o q h => by rw [hgs]; exact tb_okC.2 o q h⟩
  obtain ⟨e, hm, he⟩ := mmap_some (show (mlk tbX o i).map (fun e => e.1) = some (ci, k, z) from h)
  have hc := List.all_eq_true.mp ckX_all _ (mlk_in _ hm)
  obtain ⟨⟨ci', k', z'⟩, a, b, d⟩ := e
  cases he
  unfold ckX at hc
  split at hc
  · next c hcl =>
    obtain ⟨h1, h2⟩ := tbCv_at hcl
    simp only [Bool.and_eq_true, decide_eq_true_eq] at hc
    obtain ⟨⟨⟨⟨⟨⟨⟨c1, c2⟩, c3⟩, c4⟩, c5⟩, c6⟩, c7⟩, c8⟩ := hc
    refine ⟨c.1, (tbC1 c).2.1, tbNames, ?_, c2, c3, List.all_eq_true.mp c4, rfl, hasG_in c5, hasG_in c6, hasG_in c7, fun w hw => ?_⟩
    · rw [hgc, ← c1]
      exact h1
    · have := List.all_eq_true.mp c8 w hw
      simp only [Bool.or_eq_true, Bool.and_eq_true, decide_eq_true_eq] at this
      rcases this with h | ⟨h, h'⟩
      · exact Or.inr h
      · exact Or.inl (List.mem_filter.mpr ⟨h, h'⟩)
  · cases hc
def ckH (mi : Nat) : Bool := (tbMi mi).2.2.2.2.1.all fun h => decide (h.2.2.2 ≠ 0) && match mlk tbT (tbMi mi).2.2.2.2.2.2.1 h.2.2.2 with
  | some e => hasG e.2.1 (.classLink (tbOn (tbMi mi).2.2.2.2.2.2.1) h.2.2.2 (tbCi e.1).1) && hasG e.2.2 (.castable (tbCi e.1).1 (tbCi e.1).1) && (List.range 13).all fun ci => decide (ci = e.1) || decide (((tbCi ci).1, (tbCi e.1).1) ∈ tbNc)
  | none => false
set_option maxRecDepth 100000 in
theorem ckH_all : (List.range 162).all ckH = true := by decide +kernel
theorem tbM_len : tbM.length = 162 := by decide +kernel
theorem tb_okHs {G : mG} (hgc : gc G = tbCv) (hgn : gN G = tbNc) : okHs G tbP tbOn WTs := by
  intro mi h hh ci r hr
  have hh : h ∈ (tbMi mi).2.2.2.2.1 := hh
  have hlt : mi < 162 := by
    by_cases hl : mi < 162
    · exact hl
    · unfold tbMi at hh
      rw [List.getD_eq_getElem?_getD, List.getElem?_eq_none (by rw [tbM_len]; omega)] at hh
      cases hh
  rw [hgc] at hr
  cases hm : tbCl[ci]? with
  | none =>
    unfold tbCv at hr
    rw [List.getElem?_map, hm] at hr
    cases hr
  | some c =>
    obtain ⟨h1, h2⟩ := tbCv_at hm
    cases h1.symm.trans hr
    have hci : ci < 13 := by rw [← tbCl_len]; exact (List.getElem?_eq_some_iff.mp hm).1
    have hc := List.all_eq_true.mp (List.all_eq_true.mp ckH_all mi (List.mem_range.mpr hlt)) h hh
    simp only [Bool.and_eq_true, decide_eq_true_eq] at hc
    obtain ⟨h0, hc⟩ := hc
    have hpt : ∀ e, mlk tbT (tbMi mi).2.2.2.2.2.2.1 h.2.2.2 = some e → mPt tbP (mPo tbP mi) h.2.2.2 ci = decide (e.1 = ci) := fun e he => by
      show (match mlk tbT (tbMi mi).2.2.2.2.2.2.1 h.2.2.2 with
        | some e => decide (e.1 = ci)
        | none => false) = _
      rw [he]
    split at hc
    · next e he =>
      simp only [Bool.and_eq_true] at hc
      obtain ⟨⟨c1, c2⟩, c3⟩ := hc
      refine ⟨h0, (tbCi e.1).1, hasG_in c1, fun ht => ?_, fun ht => ?_⟩
      · rw [hpt e he] at ht
        have ht := of_decide_eq_true ht
        subst ht
        show Cond.castable (tbC1 c).1 _ ∈ _
        have h3 : (tbC1 c).1 = (tbCi e.1).1 := by rw [h2]; rfl
        rw [h3]
        exact hasG_in c2
      · rw [hpt e he] at ht
        have ht := of_decide_eq_false ht
        have h4 := List.all_eq_true.mp c3 ci (List.mem_range.mpr hci)
        simp only [Bool.or_eq_true, decide_eq_true_eq] at h4
        rw [hgn]
        have h5 := h4.resolve_left (fun q => ht q.symm)
        have h3 : (tbC1 c).1 = (tbCi ci).1 := by rw [h2]; rfl
        show ((tbC1 c).1, _) ∈ _
        rw [h3]
        exact h5
    · cases hc
