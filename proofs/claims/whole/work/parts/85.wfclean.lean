/-! Well-formed disks: clean. -/
theorem spW_val {s f e : Nat} {t : List Nat} : ∀ (z : Nat) {k j : Nat} {D : Nat → Nat} {x : Nat}, f ≤ k → k ≤ e → dWs D ((spW s f e t z k).take j) x = D x ∨ dWs D ((spW s f e t z k).take j) x = gB0 t (x - 128 * s - f)
  | 0, k, j, D, x, hf, hk => by
    left
    show dWs D (([] : List WI).take j) x = D x
    rw [List.take_nil]
    rfl
  | z + 1, k, 0, D, x, hf, hk => by
    left
    rw [List.take_zero]
    rfl
  | z + 1, k, j + 1, D, x, hf, hk => by
    by_cases hke : k < e
    · have e1 : spW s f e t (z + 1) k = wi (128 * s + k) (nK k e - k) (fun i => gB0 t (k - f + i)) :: spW s f e t z (nK k e) := if_pos hke
      have hn := nK_lt hke
      rw [e1, List.take_succ_cons]
      show dWs (dW D (128 * s + k) (nK k e - k) (fun i => gB0 t (k - f + i))) ((spW s f e t z (nK k e)).take j) x = D x ∨ dWs (dW D (128 * s + k) (nK k e - k) (fun i => gB0 t (k - f + i))) ((spW s f e t z (nK k e)).take j) x = _
      rcases spW_val z (j := j) (D := dW D (128 * s + k) (nK k e - k) (fun i => gB0 t (k - f + i))) (x := x) (show f ≤ nK k e by omega) hn.2 with h | h
      · rw [h]
        unfold dW
        split
        · right
          show gB0 t (k - f + (x - (128 * s + k))) = _
          rw [show k - f + (x - (128 * s + k)) = x - 128 * s - f by omega]
        · exact Or.inl rfl
      · exact Or.inr h
    · have e1 : spW s f e t (z + 1) k = [] := if_neg hke
      left
      rw [e1, List.take_nil]
      rfl
theorem cF_2 (D : Nat → Nat) (s : Nat) (P : Nat → Nat → Bool) (c : Nat) : gB0 (cF D s P c) 2 = 0 := by
  unfold cF
  rw [gB0_2 _ _ _ (Nat.le_refl 2), cT_cB, gB0_app_l (by rw [hdr_len]; decide)]
  unfold hdr
  rfl
/-- a move that is cut off -/
theorem mv_pre {D : Nat → Nat} {F : Nat → Nat → Nat} {bc c N : Nat → Nat} {l i r j : Nat} {P : Nat → Nat → Bool} (h : WFD D F bc c N) (hl : l < 4) (hi : i + 1 < c l) (hr : r < 16) (hr0 : oB D r = 0) (h8 : ¬ (cF D (F l i) P (bc (F l i))).length = 8) (h128 : (cF D (F l i) P (bc (F l i))).length ≤ 128) (hj : j < (mvW r l (F l i) (cF D (F l i) P (bc (F l i)))).length) :
    ∃ D1 w F' bc' c', WFD D1 F' bc' c' N ∧ ROK (dWs D ((mvW r l (F l i) (cF D (F l i) P (bc (F l i)))).take j)) D1 w := by
  obtain ⟨t, ht⟩ : ∃ t, t = cF D (F l i) P (bc (F l i)) := ⟨_, rfl⟩
  have hfi := (h.1 l hl).1.1 i (by omega)
  have hWi := (h.1 l hl).2.1 i (by omega)
  have hne : ¬ r = F l i := fun q => by
    rw [q, hfi.2.1] at hr0
    omega
  have hfin := WFD_mv h hl hi hr hr0 h8 h128
  have hm := mv_D (D := D) (l := l) (t := cF D (F l i) P (bc (F l i))) hr hfi.1 hne hl h128
  have hcl := cF_len D (F l i) P (bc (F l i))
  have hb := cF_back (D' := dWs D (mvW r l (F l i) (cF D (F l i) P (bc (F l i))))) (r := r) hWi P (by have := hfi.2.2; omega) (by rw [← hcl]; exact h128) (fun x hx h2 => hm.1 x (by rw [hcl]; exact hx) h2)
  have ht2 : gB0 t 2 = 0 := by
    rw [ht]
    exact cF_2 _ _ _ _
  rw [← ht] at hj hfin hm hb h128 ⊢
  obtain ⟨W, hW⟩ : ∃ W, W = spW r 0 (up32 t.length) t 4 0 := ⟨_, rfl⟩
  have hmv : mvW r l (F l i) t = W ++ [owW r (l + 1), owW (F l i) 0] := by
    rw [hW]
    rfl
  have hu : up32 t.length ≤ 128 := by
    unfold up32
    omega
  rw [hmv, List.length_append] at hj
  have h2l : ([owW r (l + 1), owW (F l i) 0] : List WI).length = 2 := rfl
  rw [h2l] at hj
  by_cases hjl : j ≤ W.length
  · have e1 : (mvW r l (F l i) t).take j = W.take j := by
      rw [hmv, List.take_append_of_le_length hjl]
    rw [e1, hW]
    refine ⟨_, 0, F, bc, c, ?_, Or.inl ⟨rfl, rfl⟩⟩
    have hout : ∀ q x, ¬ q = r → x < 128 → dWs D ((spW r 0 (up32 t.length) t 4 0).take j) (128 * q + x) = D (128 * q + x) := fun q x hq hx => spW_pre 4 (by omega) (Nat.zero_le _)
    have ho : ∀ q, oB (dWs D ((spW r 0 (up32 t.length) t 4 0).take j)) q = oB D q := fun q => by
      by_cases e : q = r
      · rw [e, hr0]
        rcases spW_val 4 (s := r) (f := 0) (e := up32 t.length) (t := t) (j := j) (D := D) (x := 128 * r + 2) (Nat.le_refl 0) (Nat.zero_le _) with h1 | h1
        · exact h1.trans hr0
        · refine h1.trans ?_
          rw [show 128 * r + 2 - 128 * r - 0 = 2 by omega]
          exact ht2
      · exact hout q 2 e (by decide)
    refine ⟨fun y hy => WL_same (h.1 y hy) (fun q hq => by rw [ho q]) (fun q hq hqo x hx _ _ => hout q x (fun e => ?_) hx), fun q hq => by rw [ho q]; exact h.2 q hq⟩
    rw [e, hr0] at hqo
    omega
  · have e1 : (mvW r l (F l i) t).take j = W ++ [owW r (l + 1)] := by
      rw [hmv, show j = W.length + 1 by omega, List.take_append, List.take_of_length_le (Nat.le_succ _), Nat.add_sub_cancel_left]
      rfl
    obtain ⟨D', hD'⟩ : ∃ D', D' = dWs D (W ++ [owW r (l + 1)]) := ⟨_, rfl⟩
    have hf : dWs D (mvW r l (F l i) t) = ow0 D' (F l i) := by
      rw [hmv, show W ++ [owW r (l + 1), owW (F l i) 0] = (W ++ [owW r (l + 1)]) ++ [owW (F l i) 0] by simp, dWs_app, ← hD']
      rfl
    rw [hf] at hfin hm hb
    rw [e1, ← hD']
    refine ⟨ow0 D' (F l i), 1, _, _, _, hfin, Or.inr ⟨r, F l i, ⟨hr, hfi.1, hne, ?_, ?_, ?_, ?_⟩, rfl, rfl⟩⟩
    · have h1 := hm.2.1
      rw [ow0_o, if_neg hne] at h1
      rw [h1]
      omega
    · have h1 := hm.2.1
      rw [ow0_o, if_neg hne] at h1
      rw [h1, ← hfi.2.1]
      have h3 : dWs D W (128 * F l i + 2) = D (128 * F l i + 2) := by
        rw [hW]
        have h4 := spW_D (s := r) (f := 0) (e := up32 t.length) (t := t) 4 (k := 0) (D := D) (Nat.le_refl 0) (Nat.zero_le _) (fun _ => by omega) (128 * F l i + 2)
        rw [h4, if_neg (by omega)]
      show oB D (F l i) = D' (128 * F l i + 2)
      rw [hD', dWs_app]
      show _ = dW (dWs D W) (128 * r + 2) 1 _ (128 * F l i + 2)
      rw [dW_out (by omega), h3]
      rfl
    · have h1 := hb.2.1
      rw [ow0_b] at h1
      rw [h1]
      have h3 : ∀ x, x < 128 → ¬ x = 2 → ow0 D' (F l i) (128 * F l i + x) = D (128 * F l i + x) := fun x hx h2 => hm.2.2.2.2 (F l i) hfi.1 (fun q => hne q.symm) x hx h2
      have h4 : bB (ow0 D' (F l i)) (F l i) = bB D (F l i) := (hd_same (fun x hx h2 _ => h3 x (by omega) h2)).2
      rw [← h4, ow0_b]
    · have h1 : gB (ow0 D' (F l i)) r = (gB D (F l i) + 1) % 256 := hb.2.2.2
      rw [ow0_g] at h1
      rw [h1]
      have h3 : gB (ow0 D' (F l i)) (F l i) = gB D (F l i) := hm.2.2.2.2 (F l i) hfi.1 (fun q => hne q.symm) 3 (by decide) (by decide)
      rw [← h3, ow0_g]
/-- a cleaning keeps the disk well-formed; cut off, it can be recovered -/
theorem cl_WFD {lim : Int64} {l : Nat} (hl : l < 4) {N : Nat → Nat} : ∀ (z : Nat) {S : DS} {F : Nat → Nat → Nat} {bc c : Nat → Nat} {i v : Nat}, WFD (dD S) F bc c N → dO S = false → ∀ R, R = cl l lim z S (F l) bc (c l) i v → (dO R.1 = false → WFD (dD R.1) (upl F l R.2.1) R.2.2.1 (upl c l R.2.2.2.1) N) ∧ (dO R.1 = true → ∃ D1 w F' bc' c', WFD D1 F' bc' c' N ∧ ROK (dD R.1) D1 w) := by
  intro z
  induction z with
  | zero =>
    intro S F bc c i v h ho R hR
    subst hR
    refine ⟨fun _ => ?_, fun q => Bool.noConfusion (ho.symm.trans q)⟩
    show WFD (dD S) (upl F l (F l)) bc (upl c l (c l)) N
    rw [upl_id, upl_id]
    exact h
  | succ z ih =>
    intro S F bc c i v h ho R hR
    have stop : R = (S, F l, bc, c l, v) → (dO R.1 = false → WFD (dD R.1) (upl F l R.2.1) R.2.2.1 (upl c l R.2.2.2.1) N) ∧ (dO R.1 = true → ∃ D1 w F' bc' c', WFD D1 F' bc' c' N ∧ ROK (dD R.1) D1 w) := fun e => by
      subst e
      refine ⟨fun _ => ?_, fun q => Bool.noConfusion (ho.symm.trans q)⟩
      show WFD (dD S) (upl F l (F l)) bc (upl c l (c l)) N
      rw [upl_id, upl_id]
      exact h
    have hR' : R = (if dO S = true ∨ ¬ i + 1 < c l then (S, F l, bc, c l, v) else if cO (dD S) (F l i) (pm (dD S) (F l) bc (c l) lim (F l i)) (bc (F l i)) = 0 then cl l lim z S (F l) bc (c l) (i + 1) v else if (cF (dD S) (F l i) (pm (dD S) (F l) bc (c l) lim (F l i)) (bc (F l i))).length = 8 then cl l lim z (wr1 S (owW (F l i) 0)) (rmF (F l) i) bc (c l - 1) i (v + cO (dD S) (F l i) (pm (dD S) (F l) bc (c l) lim (F l i)) (bc (F l i))) else if 128 < (cF (dD S) (F l i) (pm (dD S) (F l) bc (c l) lim (F l i)) (bc (F l i))).length ∨ frS (dD S) 16 0 = -1 then (S, F l, bc, c l, v) else cl l lim z (wrs S (mvW (frN (dD S) 16 0) l (F l i) (cF (dD S) (F l i) (pm (dD S) (F l) bc (c l) lim (F l i)) (bc (F l i))))) (fun k => if k = i then frN (dD S) 16 0 else F l k) (fun x => if x = frN (dD S) 16 0 then cC (dD S) (F l i) (pm (dD S) (F l) bc (c l) lim (F l i)) (bc (F l i)) else bc x) (c l) (i + 1) (v + cO (dD S) (F l i) (pm (dD S) (F l) bc (c l) lim (F l i)) (bc (F l i)))) := hR
    by_cases h1 : dO S = true ∨ ¬ i + 1 < c l
    · rw [if_pos h1] at hR'
      exact stop hR'
    · rw [if_neg h1] at hR'
      have hi : i + 1 < c l := Decidable.byContradiction (fun q => h1 (Or.inr q))
      by_cases h2 : cO (dD S) (F l i) (pm (dD S) (F l) bc (c l) lim (F l i)) (bc (F l i)) = 0
      · rw [if_pos h2] at hR'
        exact ih h ho R hR'
      · rw [if_neg h2] at hR'
        by_cases h3 : (cF (dD S) (F l i) (pm (dD S) (F l) bc (c l) lim (F l i)) (bc (F l i))).length = 8
        · rw [if_pos h3] at hR'
          by_cases hw : dO (wr1 S (owW (F l i) 0)) = true
          · rw [cl_off hw] at hR'
            subst hR'
            refine ⟨fun q => Bool.noConfusion (q.symm.trans hw), fun _ => ⟨dD S, 0, F, bc, c, h, Or.inl ⟨?_, rfl⟩⟩⟩
            show dD S = dD (wr1 S (owW (F l i) 0))
            rw [wr_due ho hw]
          · have hw' := ne_true hw
            have h4 := WFD_rm h hl hi
            have eD : dD (wr1 S (owW (F l i) 0)) = ow0 (dD S) (F l i) := (wr1_D hw').2
            rw [← eD] at h4
            have h5 := ih (S := wr1 S (owW (F l i) 0)) h4 hw' R (by rw [upl_s, upl_s]; exact hR')
            rw [upl_upl, upl_upl] at h5
            exact h5
        · rw [if_neg h3] at hR'
          by_cases h4 : 128 < (cF (dD S) (F l i) (pm (dD S) (F l) bc (c l) lim (F l i)) (bc (F l i))).length ∨ frS (dD S) 16 0 = -1
          · rw [if_pos h4] at hR'
            exact stop hR'
          · rw [if_neg h4] at hR'
            obtain ⟨r, hr⟩ : ∃ r, r = frN (dD S) 16 0 := ⟨_, rfl⟩
            have hrr : r < 16 ∧ oB (dD S) r = 0 := by
              rw [hr]
              rcases frN_spec (dD S) 16 0 with h5 | h5
              · exact absurd (Or.inr h5.1) h4
              · exact ⟨by omega, h5.2.2.2⟩
            have h128 : (cF (dD S) (F l i) (pm (dD S) (F l) bc (c l) lim (F l i)) (bc (F l i))).length ≤ 128 := by omega
            rw [← hr] at hR'
            by_cases hw : dO (wrs S (mvW r l (F l i) (cF (dD S) (F l i) (pm (dD S) (F l) bc (c l) lim (F l i)) (bc (F l i))))) = true
            · rw [cl_off hw] at hR'
              obtain ⟨k, hk, ek⟩ := wrs_pre ho hw
              have h6 := mv_pre h hl hi hrr.1 hrr.2 h3 h128 hk
              rw [← ek] at h6
              subst hR'
              exact ⟨fun q => Bool.noConfusion (q.symm.trans hw), fun _ => h6⟩
            · have hw' := ne_true hw
              have h6 := WFD_mv h hl hi hrr.1 hrr.2 h3 h128
              rw [← (wrs_on hw').2] at h6
              have h7 := ih (c := c) h6 hw' R (by rw [upl_s]; exact hR')
              rw [upl_upl] at h7
              exact h7
