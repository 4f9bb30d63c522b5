theorem tbCd_len : tbCd.length = 162 := by decide +kernel
theorem tb_okD : okD tbP := by
  intro mi pc x h
  have h : mlk1 (tbCd.getD mi []) pc = some x := h
  by_cases hlt : mi < 162
  · have h2 := dk_all mi hlt
    unfold ckD at h2
    have h3 := List.all_eq_true.mp h2 (pc, x) (mlk1_in _ h)
    have h4 : decide (decode (mPb tbP mi) pc = .ok x) = true := h3
    exact of_decide_eq_true h4
  · rw [List.getD_eq_getElem?_getD, List.getElem?_eq_none (by rw [tbCd_len]; omega)] at h
    cases h
