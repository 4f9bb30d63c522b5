/-! A slot is cleaned: the model. -/
section S68
variable {n u : Nat} {I : Nat → Int32} {A : Nat → Nat → Int32} {J : Int64} {B : Nat → Int64} {mk sn L : Nat} {xs : Nat → Int32} {X : Nat → mC} {D : Nat → Nat} 
theorem orM (p : Nat → Bool) {k : Nat} (hk : k < 4) : nI (mkM p k) ||| nI (2 ^ k) = nI (2 ^ k + mkM p k) := by
  have h := nI_oradd (a := 1) (mkM_lt p k)
  rw [Nat.one_mul] at h
  rw [Int32.or_comm]
  exact h
set_option maxRecDepth 100000 in
set_option maxHeartbeats 4000000 in
theorem l_148 {l cn s j c : Nat} {f bc : Nat → Nat} {t : Int32} (hl : l < 4) (hG : SG D l f cn) (hW : ∀ k, k < cn → WS D (f k) (bc (f k))) (hs : s < 16) (hWs : WS D s c) (hj : j < c) {Q : mO × mHp → Prop} : ∀ (z k : Nat) (w8 : Option Value) {I : Nat → Int32} {A : Nat → Nat → Int32}, (DK (A 50) D) → (k + z = bN D (sb D s j)) → (I 61 = nI 0) → (∀ I' A' w8', Fr [65, 66, 67, 71] I I' → Fr [52] A A' → mq 148 131 [some (.ref 67), some (.int (nI l)), some (.int (nI s)), some (.int (nI (sb D s j))), some (.int t), some (.int (nI (bN D (sb D s j)))), some (.int (nI (mkM (pm D f bc cn (t.toInt64 - 100) s j) (bN D (sb D s j))))), some (.int (nI (bN D (sb D s j)))), w8'] [] (hS n u I' A' J B mk sn L xs X) Q) → mq 148 22 [some (.ref 67), some (.int (nI l)), some (.int (nI s)), some (.int (nI (sb D s j))), some (.int t), some (.int (nI (bN D (sb D s j)))), some (.int (nI (mkM (pm D f bc cn (t.toInt64 - 100) s j) k))), some (.int (nI k)), w8] [] (hS n u I A J B mk sn L xs X) Q := by
  intro z
  induction z with
  | zero =>
    intro k w8 I A h hz h61 kk
    have q4 := (WS_b hWs hj).2.1
    refine x_il2 (pc := 22) rfl rfl ?_
    refine x_il2 (pc := 24) rfl rfl ?_
    refine x_cmpN_ge (pc := 26) (t := 131) rfl rfl (by omega) (by omega) (fun c26 => ?_) (fun c26 => ?_)
    · rw [show k = bN D (sb D s j) by omega]
      exact kk I A w8 (Fr_refl _ _) (Fr_refl _ _)
    · omega
  | succ z ih =>
    intro k w8 I A h hz h61 kk
    have q4 := (WS_b hWs hj).2.1
    have qd := (WS_b hWs hj).2.2.1 k (by omega)
    have q1 := WS_128 hWs
    have q2 := WS_in hWs hj
    have q9 := mkM_lt (pm D f bc cn (t.toInt64 - 100) s j) k
    have q10 : 2 ^ k ≤ 2 ^ 4 := Nat.pow_le_pow_right (by decide) (by omega)
    refine x_il2 (pc := 22) rfl rfl ?_
    refine x_il2 (pc := 24) rfl rfl ?_
    refine x_cmpN_ge (pc := 26) (t := 131) rfl rfl (by omega) (by omega) (fun c26 => ?_) (fun c26 => ?_)
    · omega
    · refine x_al1 (pc := 29) rfl rfl ?_
      refine x_il1 (pc := 30) rfl rfl ?_
      refine p_67_19 (pc := 31) rfl rfl ?_
      refine x_al1 (pc := 34) rfl rfl ?_
      refine x_il1 (pc := 35) rfl rfl ?_
      refine x_k (pc := 36) rfl rfl rfl ⟨Nat.le_of_ble_eq_true rfl, Nat.le_of_ble_eq_true rfl, Nat.le_of_ble_eq_true rfl⟩ rfl (k_124 (I := va_up I 71 (nI (sb D s j))) (A := A) (k := s) (q := sb D s j) h hs rfl (WS_b hWs hj).2.1 (WS_b hWs hj).2.2.1 (by rw [WS_rq hWs hj]; omega) (fun I1 A1 f1 g1 e1 hg1 => ?_))
      show mq 148 39 [some (.ref 67), some (.int (nI l)), some (.int (nI s)), some (.int (nI (sb D s j))), some (.int t), some (.int (nI (bN D (sb D s j)))), some (.int (nI (mkM (pm D f bc cn (t.toInt64 - 100) s j) k))), some (.int (nI k)), w8] [] (hS n u I1 A1 J B mk sn L xs X) _
      refine x_al1 (pc := 39) rfl rfl ?_
      refine g_67_7 (pc := 40) rfl rfl ?_
      refine x_const (pc := 43) (pc' := 45) (.int (nI 16)) rfl rfl rfl rfl ?_
      refine x_il2 (pc := 45) rfl rfl ?_
      refine x_iaddN (pc := 47) (c := 16 + k) rfl rfl ?_
      refine al_70 (pc := 48) (q := 16 + k) (v := nI (dR D (sb D s j) k)) rfl rfl (by omega) ((hg1.2.2.2 k (by omega)).2.2.2.2) ?_
      refine x_const (pc := 49) (pc' := 50) (.int (nI 1)) rfl rfl rfl rfl ?_
      refine x_cmpN_ne (pc := 50) (t := 74) rfl rfl (by omega) (by decide) (fun c50 => ?_) (fun c50 => ?_)
      · refine x_al1 (pc := 74) rfl rfl ?_
        refine x_il1 (pc := 75) rfl rfl ?_
        refine x_al1 (pc := 76) rfl rfl ?_
        refine g_67_7 (pc := 77) rfl rfl ?_
        refine x_il2 (pc := 80) rfl rfl ?_
        refine al_70 (pc := 82) (q := k) (v := oR D (bB D s) (sb D s j) k) rfl rfl (by omega) ((hg1.2.2.2 k (by omega)).1) ?_
        refine x_al1 (pc := 83) rfl rfl ?_
        refine g_67_7 (pc := 84) rfl rfl ?_
        refine x_const (pc := 87) (pc' := 89) (.int (nI 8)) rfl rfl rfl rfl ?_
        refine x_il2 (pc := 89) rfl rfl ?_
        refine x_iaddN (pc := 91) (c := 8 + k) rfl rfl ?_
        refine al_70 (pc := 92) (q := 8 + k) (v := kR D (sb D s j) k) rfl rfl (by omega) ((hg1.2.2.2 k (by omega)).2.2.1) ?_
        refine x_k (pc := 93) rfl rfl rfl ⟨Nat.le_of_ble_eq_true rfl, Nat.le_of_ble_eq_true rfl, Nat.le_of_ble_eq_true rfl⟩ rfl (k_149 (I := I1) (A := A1) (D := D) (f := f) (bc := bc) (cn := cn) (by rw [g1 50 (by decide)]; exact h) hl hG hW ((f1 61 (by decide)).trans h61) (fun I2 A2 f2 g2 => ?_))
        show mq 148 96 [some (.ref 67), some (.int (nI l)), some (.int (nI s)), some (.int (nI (sb D s j))), some (.int t), some (.int (nI (bN D (sb D s j)))), some (.int (nI (mkM (pm D f bc cn (t.toInt64 - 100) s j) k))), some (.int (nI k)), w8] [.int (nI (if caL D f bc (oR D (bB D s) (sb D s j) k) (kR D (sb D s j) k) cn = true then 1 else 0))] (hS n u I2 A2 J B mk sn L xs X) _
        refine x_ifN_eq (pc := 96) (t := 103) rfl rfl (by split <;> omega) (fun c96 => ?_) (fun c96 => ?_)
        · have eC : caL D f bc (oR D (bB D s) (sb D s j) k) (kR D (sb D s j) k) cn = false := ne_true (fun w => by rw [if_pos w] at c96; exact absurd c96 (by decide))
          have ep : (pm D f bc cn (t.toInt64 - 100) s j) k = false := by
            show (_ || _) = false
            rw [eC, Bool.or_false, show decide (dR D (sb D s j) k = 1) = false from decide_eq_false c50, Bool.false_and]
          refine x_const (pc := 103) (pc' := 104) (.int (nI 0)) rfl rfl rfl rfl ?_
          refine x_is2 (pc := 104) (ml' := [some (.ref 67), some (.int (nI l)), some (.int (nI s)), some (.int (nI (sb D s j))), some (.int t), some (.int (nI (bN D (sb D s j)))), some (.int (nI (mkM (pm D f bc cn (t.toInt64 - 100) s j) k))), some (.int (nI k)), some (.int (nI 0))]) rfl rfl ?_
          refine x_il2 (pc := 106) rfl rfl ?_
          refine x_ifN_eq (pc := 108) (t := 116) rfl rfl (by decide) (fun _ => ?_) (fun c => absurd c (by decide))
          refine x_il2 (pc := 116) rfl rfl ?_
          refine x_const (pc := 118) (pc' := 119) (.int (nI 1)) rfl rfl rfl rfl ?_
          refine x_il2 (pc := 119) rfl rfl ?_
          refine x_ishlV (pc := 121) (v := nI (2 ^ k)) rfl (shlk (by omega)) ?_
          refine x_iorV (pc := 122) (v := nI (2 ^ k + mkM (pm D f bc cn (t.toInt64 - 100) s j) k)) rfl (orM (pm D f bc cn (t.toInt64 - 100) s j) (by omega)) ?_
          refine x_is2 (pc := 123) (ml' := [some (.ref 67), some (.int (nI l)), some (.int (nI s)), some (.int (nI (sb D s j))), some (.int t), some (.int (nI (bN D (sb D s j)))), some (.int (nI (2 ^ k + mkM (pm D f bc cn (t.toInt64 - 100) s j) k))), some (.int (nI k)), some (.int (nI 0))]) rfl rfl ?_
          refine x_iincN (pc := 125) (c := 1) (ml' := [some (.ref 67), some (.int (nI l)), some (.int (nI s)), some (.int (nI (sb D s j))), some (.int t), some (.int (nI (bN D (sb D s j)))), some (.int (nI (2 ^ k + mkM (pm D f bc cn (t.toInt64 - 100) s j) k))), some (.int (nI (k + 1))), some (.int (nI 0))]) rfl rfl rfl rfl ?_
          refine x_step (pc := 128) (pc' := 22) rfl rfl rfl rfl ?_
          have eM : mkM (pm D f bc cn (t.toInt64 - 100) s j) (k + 1) = 2 ^ k + mkM (pm D f bc cn (t.toInt64 - 100) s j) k := by
            show mkM (pm D f bc cn (t.toInt64 - 100) s j) k + (if (pm D f bc cn (t.toInt64 - 100) s j) k = true then 0 else 2 ^ k) = _
            rw [if_neg (by rw [ep]; decide), Nat.add_comm]
          have ihk := ih (k + 1) (some (.int (nI 0))) (I := I2) (A := A2) (by rw [(show Fr [52] A A2 from (Fr_cons (Fr_cons (Fr_refl _ _) g1 (by decide)) g2 (by decide))) 50 (by decide)]; exact h) (by omega) ((f2 61 (by decide)).trans ((f1 61 (by decide)).trans h61)) (fun I3 A3 w f3 g3 => kk I3 A3 w (Fr_cons (Fr_cons (Fr_cons (Fr_u (Fr_refl _ _) (by decide)) f1 (by decide)) f2 (by decide)) f3 (by decide)) (Fr_cons (Fr_cons (Fr_cons (Fr_refl _ _) g1 (by decide)) g2 (by decide)) g3 (by decide)))
          rw [eM] at ihk
          exact ihk
        · have eC : caL D f bc (oR D (bB D s) (sb D s j) k) (kR D (sb D s j) k) cn = true := Decidable.byContradiction (fun w => c96 (if_neg w))
          have ep : (pm D f bc cn (t.toInt64 - 100) s j) k = true := by
            show (_ || _) = true
            rw [eC, Bool.or_true]
          refine x_const (pc := 99) (pc' := 100) (.int (nI 1)) rfl rfl rfl rfl ?_
          refine x_step (pc := 100) (pc' := 104) rfl rfl rfl rfl ?_
          refine x_is2 (pc := 104) (ml' := [some (.ref 67), some (.int (nI l)), some (.int (nI s)), some (.int (nI (sb D s j))), some (.int t), some (.int (nI (bN D (sb D s j)))), some (.int (nI (mkM (pm D f bc cn (t.toInt64 - 100) s j) k))), some (.int (nI k)), some (.int (nI 1))]) rfl rfl ?_
          refine x_il2 (pc := 106) rfl rfl ?_
          refine x_ifN_eq (pc := 108) (t := 116) rfl rfl (by decide) (fun c => absurd c (by decide)) (fun _ => ?_)
          refine x_il2 (pc := 111) rfl rfl ?_
          refine x_step (pc := 113) (pc' := 123) rfl rfl rfl rfl ?_
          refine x_is2 (pc := 123) (ml' := [some (.ref 67), some (.int (nI l)), some (.int (nI s)), some (.int (nI (sb D s j))), some (.int t), some (.int (nI (bN D (sb D s j)))), some (.int (nI (mkM (pm D f bc cn (t.toInt64 - 100) s j) k))), some (.int (nI k)), some (.int (nI 1))]) rfl rfl ?_
          refine x_iincN (pc := 125) (c := 1) (ml' := [some (.ref 67), some (.int (nI l)), some (.int (nI s)), some (.int (nI (sb D s j))), some (.int t), some (.int (nI (bN D (sb D s j)))), some (.int (nI (mkM (pm D f bc cn (t.toInt64 - 100) s j) k))), some (.int (nI (k + 1))), some (.int (nI 1))]) rfl rfl rfl rfl ?_
          refine x_step (pc := 128) (pc' := 22) rfl rfl rfl rfl ?_
          have eM : mkM (pm D f bc cn (t.toInt64 - 100) s j) (k + 1) = mkM (pm D f bc cn (t.toInt64 - 100) s j) k := by
            show mkM (pm D f bc cn (t.toInt64 - 100) s j) k + (if (pm D f bc cn (t.toInt64 - 100) s j) k = true then 0 else 2 ^ k) = _
            rw [if_pos ep, Nat.add_zero]
          have ihk := ih (k + 1) (some (.int (nI 1))) (I := I2) (A := A2) (by rw [(show Fr [52] A A2 from (Fr_cons (Fr_cons (Fr_refl _ _) g1 (by decide)) g2 (by decide))) 50 (by decide)]; exact h) (by omega) ((f2 61 (by decide)).trans ((f1 61 (by decide)).trans h61)) (fun I3 A3 w f3 g3 => kk I3 A3 w (Fr_cons (Fr_cons (Fr_cons (Fr_u (Fr_refl _ _) (by decide)) f1 (by decide)) f2 (by decide)) f3 (by decide)) (Fr_cons (Fr_cons (Fr_cons (Fr_refl _ _) g1 (by decide)) g2 (by decide)) g3 (by decide)))
          rw [eM] at ihk
          exact ihk
      · refine x_al1 (pc := 53) rfl rfl ?_
        refine g_67_7 (pc := 54) rfl rfl ?_
        refine x_const (pc := 57) (pc' := 58) (.int (nI 4)) rfl rfl rfl rfl ?_
        refine x_il2 (pc := 58) rfl rfl ?_
        refine x_iaddN (pc := 60) (c := 4 + k) rfl rfl ?_
        refine al_70 (pc := 61) (q := 4 + k) (v := tR D (sb D s j) k) rfl rfl (by omega) ((hg1.2.2.2 k (by omega)).2.1) ?_
        refine x_i2l (pc := 62) rfl rfl ?_
        refine x_il2 (pc := 63) rfl rfl ?_
        refine x_i2l (pc := 65) rfl rfl ?_
        refine x_const (pc := 66) (pc' := 69) (.long 100) rfl rfl rfl rfl ?_
        refine x_lsub (pc := 69) rfl rfl ?_
        refine x_step (pc := 70) (pc' := 71) (st' := [.int (lg_cmp ((tR D (sb D s j) k).toInt64) (t.toInt64 - 100))]) rfl rfl rfl rfl ?_
        refine x_if_lt (pc := 71) (t := 99) rfl rfl rfl (fun c71 => ?_) (fun c71 => ?_)
        · have ep : (pm D f bc cn (t.toInt64 - 100) s j) k = true := by
            show (_ || _) = true
            rw [show decide (dR D (sb D s j) k = 1) = true from decide_eq_true c50, show decide ((tR D (sb D s j) k).toInt64 < (t.toInt64 - 100)) = true from decide_eq_true (lg_lt.mp c71)]
            rfl
          refine x_const (pc := 99) (pc' := 100) (.int (nI 1)) rfl rfl rfl rfl ?_
          refine x_step (pc := 100) (pc' := 104) rfl rfl rfl rfl ?_
          refine x_is2 (pc := 104) (ml' := [some (.ref 67), some (.int (nI l)), some (.int (nI s)), some (.int (nI (sb D s j))), some (.int t), some (.int (nI (bN D (sb D s j)))), some (.int (nI (mkM (pm D f bc cn (t.toInt64 - 100) s j) k))), some (.int (nI k)), some (.int (nI 1))]) rfl rfl ?_
          refine x_il2 (pc := 106) rfl rfl ?_
          refine x_ifN_eq (pc := 108) (t := 116) rfl rfl (by decide) (fun c => absurd c (by decide)) (fun _ => ?_)
          refine x_il2 (pc := 111) rfl rfl ?_
          refine x_step (pc := 113) (pc' := 123) rfl rfl rfl rfl ?_
          refine x_is2 (pc := 123) (ml' := [some (.ref 67), some (.int (nI l)), some (.int (nI s)), some (.int (nI (sb D s j))), some (.int t), some (.int (nI (bN D (sb D s j)))), some (.int (nI (mkM (pm D f bc cn (t.toInt64 - 100) s j) k))), some (.int (nI k)), some (.int (nI 1))]) rfl rfl ?_
          refine x_iincN (pc := 125) (c := 1) (ml' := [some (.ref 67), some (.int (nI l)), some (.int (nI s)), some (.int (nI (sb D s j))), some (.int t), some (.int (nI (bN D (sb D s j)))), some (.int (nI (mkM (pm D f bc cn (t.toInt64 - 100) s j) k))), some (.int (nI (k + 1))), some (.int (nI 1))]) rfl rfl rfl rfl ?_
          refine x_step (pc := 128) (pc' := 22) rfl rfl rfl rfl ?_
          have eM : mkM (pm D f bc cn (t.toInt64 - 100) s j) (k + 1) = mkM (pm D f bc cn (t.toInt64 - 100) s j) k := by
            show mkM (pm D f bc cn (t.toInt64 - 100) s j) k + (if (pm D f bc cn (t.toInt64 - 100) s j) k = true then 0 else 2 ^ k) = _
            rw [if_pos ep, Nat.add_zero]
          have ihk := ih (k + 1) (some (.int (nI 1))) (I := I1) (A := A1) (by rw [(show Fr [52] A A1 from (Fr_cons (Fr_refl _ _) g1 (by decide))) 50 (by decide)]; exact h) (by omega) ((f1 61 (by decide)).trans h61) (fun I3 A3 w f3 g3 => kk I3 A3 w (Fr_cons (Fr_cons (Fr_u (Fr_refl _ _) (by decide)) f1 (by decide)) f3 (by decide)) (Fr_cons (Fr_cons (Fr_refl _ _) g1 (by decide)) g3 (by decide)))
          rw [eM] at ihk
          exact ihk
        · refine x_al1 (pc := 74) rfl rfl ?_
          refine x_il1 (pc := 75) rfl rfl ?_
          refine x_al1 (pc := 76) rfl rfl ?_
          refine g_67_7 (pc := 77) rfl rfl ?_
          refine x_il2 (pc := 80) rfl rfl ?_
          refine al_70 (pc := 82) (q := k) (v := oR D (bB D s) (sb D s j) k) rfl rfl (by omega) ((hg1.2.2.2 k (by omega)).1) ?_
          refine x_al1 (pc := 83) rfl rfl ?_
          refine g_67_7 (pc := 84) rfl rfl ?_
          refine x_const (pc := 87) (pc' := 89) (.int (nI 8)) rfl rfl rfl rfl ?_
          refine x_il2 (pc := 89) rfl rfl ?_
          refine x_iaddN (pc := 91) (c := 8 + k) rfl rfl ?_
          refine al_70 (pc := 92) (q := 8 + k) (v := kR D (sb D s j) k) rfl rfl (by omega) ((hg1.2.2.2 k (by omega)).2.2.1) ?_
          refine x_k (pc := 93) rfl rfl rfl ⟨Nat.le_of_ble_eq_true rfl, Nat.le_of_ble_eq_true rfl, Nat.le_of_ble_eq_true rfl⟩ rfl (k_149 (I := I1) (A := A1) (D := D) (f := f) (bc := bc) (cn := cn) (by rw [g1 50 (by decide)]; exact h) hl hG hW ((f1 61 (by decide)).trans h61) (fun I2 A2 f2 g2 => ?_))
          show mq 148 96 [some (.ref 67), some (.int (nI l)), some (.int (nI s)), some (.int (nI (sb D s j))), some (.int t), some (.int (nI (bN D (sb D s j)))), some (.int (nI (mkM (pm D f bc cn (t.toInt64 - 100) s j) k))), some (.int (nI k)), w8] [.int (nI (if caL D f bc (oR D (bB D s) (sb D s j) k) (kR D (sb D s j) k) cn = true then 1 else 0))] (hS n u I2 A2 J B mk sn L xs X) _
          refine x_ifN_eq (pc := 96) (t := 103) rfl rfl (by split <;> omega) (fun c96 => ?_) (fun c96 => ?_)
          · have eC : caL D f bc (oR D (bB D s) (sb D s j) k) (kR D (sb D s j) k) cn = false := ne_true (fun w => by rw [if_pos w] at c96; exact absurd c96 (by decide))
            have ep : (pm D f bc cn (t.toInt64 - 100) s j) k = false := by
              show (_ || _) = false
              rw [eC, Bool.or_false, show decide ((tR D (sb D s j) k).toInt64 < (t.toInt64 - 100)) = false from decide_eq_false (fun w => c71 (lg_lt.mpr w)), Bool.and_false]
            refine x_const (pc := 103) (pc' := 104) (.int (nI 0)) rfl rfl rfl rfl ?_
            refine x_is2 (pc := 104) (ml' := [some (.ref 67), some (.int (nI l)), some (.int (nI s)), some (.int (nI (sb D s j))), some (.int t), some (.int (nI (bN D (sb D s j)))), some (.int (nI (mkM (pm D f bc cn (t.toInt64 - 100) s j) k))), some (.int (nI k)), some (.int (nI 0))]) rfl rfl ?_
            refine x_il2 (pc := 106) rfl rfl ?_
            refine x_ifN_eq (pc := 108) (t := 116) rfl rfl (by decide) (fun _ => ?_) (fun c => absurd c (by decide))
            refine x_il2 (pc := 116) rfl rfl ?_
            refine x_const (pc := 118) (pc' := 119) (.int (nI 1)) rfl rfl rfl rfl ?_
            refine x_il2 (pc := 119) rfl rfl ?_
            refine x_ishlV (pc := 121) (v := nI (2 ^ k)) rfl (shlk (by omega)) ?_
            refine x_iorV (pc := 122) (v := nI (2 ^ k + mkM (pm D f bc cn (t.toInt64 - 100) s j) k)) rfl (orM (pm D f bc cn (t.toInt64 - 100) s j) (by omega)) ?_
            refine x_is2 (pc := 123) (ml' := [some (.ref 67), some (.int (nI l)), some (.int (nI s)), some (.int (nI (sb D s j))), some (.int t), some (.int (nI (bN D (sb D s j)))), some (.int (nI (2 ^ k + mkM (pm D f bc cn (t.toInt64 - 100) s j) k))), some (.int (nI k)), some (.int (nI 0))]) rfl rfl ?_
            refine x_iincN (pc := 125) (c := 1) (ml' := [some (.ref 67), some (.int (nI l)), some (.int (nI s)), some (.int (nI (sb D s j))), some (.int t), some (.int (nI (bN D (sb D s j)))), some (.int (nI (2 ^ k + mkM (pm D f bc cn (t.toInt64 - 100) s j) k))), some (.int (nI (k + 1))), some (.int (nI 0))]) rfl rfl rfl rfl ?_
            refine x_step (pc := 128) (pc' := 22) rfl rfl rfl rfl ?_
            have eM : mkM (pm D f bc cn (t.toInt64 - 100) s j) (k + 1) = 2 ^ k + mkM (pm D f bc cn (t.toInt64 - 100) s j) k := by
              show mkM (pm D f bc cn (t.toInt64 - 100) s j) k + (if (pm D f bc cn (t.toInt64 - 100) s j) k = true then 0 else 2 ^ k) = _
              rw [if_neg (by rw [ep]; decide), Nat.add_comm]
            have ihk := ih (k + 1) (some (.int (nI 0))) (I := I2) (A := A2) (by rw [(show Fr [52] A A2 from (Fr_cons (Fr_cons (Fr_refl _ _) g1 (by decide)) g2 (by decide))) 50 (by decide)]; exact h) (by omega) ((f2 61 (by decide)).trans ((f1 61 (by decide)).trans h61)) (fun I3 A3 w f3 g3 => kk I3 A3 w (Fr_cons (Fr_cons (Fr_cons (Fr_u (Fr_refl _ _) (by decide)) f1 (by decide)) f2 (by decide)) f3 (by decide)) (Fr_cons (Fr_cons (Fr_cons (Fr_refl _ _) g1 (by decide)) g2 (by decide)) g3 (by decide)))
            rw [eM] at ihk
            exact ihk
          · have eC : caL D f bc (oR D (bB D s) (sb D s j) k) (kR D (sb D s j) k) cn = true := Decidable.byContradiction (fun w => c96 (if_neg w))
            have ep : (pm D f bc cn (t.toInt64 - 100) s j) k = true := by
              show (_ || _) = true
              rw [eC, Bool.or_true]
            refine x_const (pc := 99) (pc' := 100) (.int (nI 1)) rfl rfl rfl rfl ?_
            refine x_step (pc := 100) (pc' := 104) rfl rfl rfl rfl ?_
            refine x_is2 (pc := 104) (ml' := [some (.ref 67), some (.int (nI l)), some (.int (nI s)), some (.int (nI (sb D s j))), some (.int t), some (.int (nI (bN D (sb D s j)))), some (.int (nI (mkM (pm D f bc cn (t.toInt64 - 100) s j) k))), some (.int (nI k)), some (.int (nI 1))]) rfl rfl ?_
            refine x_il2 (pc := 106) rfl rfl ?_
            refine x_ifN_eq (pc := 108) (t := 116) rfl rfl (by decide) (fun c => absurd c (by decide)) (fun _ => ?_)
            refine x_il2 (pc := 111) rfl rfl ?_
            refine x_step (pc := 113) (pc' := 123) rfl rfl rfl rfl ?_
            refine x_is2 (pc := 123) (ml' := [some (.ref 67), some (.int (nI l)), some (.int (nI s)), some (.int (nI (sb D s j))), some (.int t), some (.int (nI (bN D (sb D s j)))), some (.int (nI (mkM (pm D f bc cn (t.toInt64 - 100) s j) k))), some (.int (nI k)), some (.int (nI 1))]) rfl rfl ?_
            refine x_iincN (pc := 125) (c := 1) (ml' := [some (.ref 67), some (.int (nI l)), some (.int (nI s)), some (.int (nI (sb D s j))), some (.int t), some (.int (nI (bN D (sb D s j)))), some (.int (nI (mkM (pm D f bc cn (t.toInt64 - 100) s j) k))), some (.int (nI (k + 1))), some (.int (nI 1))]) rfl rfl rfl rfl ?_
            refine x_step (pc := 128) (pc' := 22) rfl rfl rfl rfl ?_
            have eM : mkM (pm D f bc cn (t.toInt64 - 100) s j) (k + 1) = mkM (pm D f bc cn (t.toInt64 - 100) s j) k := by
              show mkM (pm D f bc cn (t.toInt64 - 100) s j) k + (if (pm D f bc cn (t.toInt64 - 100) s j) k = true then 0 else 2 ^ k) = _
              rw [if_pos ep, Nat.add_zero]
            have ihk := ih (k + 1) (some (.int (nI 1))) (I := I2) (A := A2) (by rw [(show Fr [52] A A2 from (Fr_cons (Fr_cons (Fr_refl _ _) g1 (by decide)) g2 (by decide))) 50 (by decide)]; exact h) (by omega) ((f2 61 (by decide)).trans ((f1 61 (by decide)).trans h61)) (fun I3 A3 w f3 g3 => kk I3 A3 w (Fr_cons (Fr_cons (Fr_cons (Fr_u (Fr_refl _ _) (by decide)) f1 (by decide)) f2 (by decide)) f3 (by decide)) (Fr_cons (Fr_cons (Fr_cons (Fr_refl _ _) g1 (by decide)) g2 (by decide)) g3 (by decide)))
            rw [eM] at ihk
            exact ihk
set_option maxRecDepth 100000 in
set_option maxHeartbeats 4000000 in
theorem k_148 (h : DK (A 50) D) {l cn s j c : Nat} {f bc : Nat → Nat} {t : Int32} (hl : l < 4) (hG : SG D l f cn) (hW : ∀ k, k < cn → WS D (f k) (bc (f k))) (hs : s < 16) (hWs : WS D s c) (hj : j < c) (h61 : I 61 = nI 0) {Q : mO × mHp → Prop} (kk : ∀ I' A', Fr [65, 66, 67, 71] I I' → Fr [52] A A' → I' 71 = nI (sb D s (j + 1)) → GB I' A' D (bB D s) (sb D s j) → Q (.inl (some (.int (nI (mkM (pm D f bc cn (t.toInt64 - 100) s j) (bN D (sb D s j)))))), hS n u I' A' J B mk sn L xs X)) : mq 148 0 [some (.ref 67), some (.int (nI l)), some (.int (nI s)), some (.int (nI (sb D s j))), some (.int t), none, none, none, none] [] (hS n u I A J B mk sn L xs X) Q := by
  have q1 := WS_128 hWs
  have q2 := WS_in hWs hj
  refine x_al1 (pc := 0) rfl rfl ?_
  refine x_il1 (pc := 1) rfl rfl ?_
  refine p_67_19 (pc := 2) rfl rfl ?_
  refine x_al1 (pc := 5) rfl rfl ?_
  refine x_il1 (pc := 6) rfl rfl ?_
  refine x_k (pc := 7) rfl rfl rfl ⟨Nat.le_of_ble_eq_true rfl, Nat.le_of_ble_eq_true rfl, Nat.le_of_ble_eq_true rfl⟩ rfl (k_124 (I := va_up I 71 (nI (sb D s j))) (A := A) (k := s) (q := sb D s j) h hs rfl (WS_b hWs hj).2.1 (WS_b hWs hj).2.2.1 (by rw [WS_rq hWs hj]; omega) (fun I1 A1 f1 g1 e1 hg1 => ?_))
  show mq 148 10 [some (.ref 67), some (.int (nI l)), some (.int (nI s)), some (.int (nI (sb D s j))), some (.int t), none, none, none, none] [] (hS n u I1 A1 J B mk sn L xs X) _
  refine x_al1 (pc := 10) rfl rfl ?_
  refine g_67_9 (pc := 11) (v := nI (bN D (sb D s j))) rfl rfl hg1.2.2.1 ?_
  refine x_is2 (pc := 14) (ml' := [some (.ref 67), some (.int (nI l)), some (.int (nI s)), some (.int (nI (sb D s j))), some (.int t), some (.int (nI (bN D (sb D s j)))), none, none, none]) rfl rfl ?_
  refine x_const (pc := 16) (pc' := 17) (.int (nI 0)) rfl rfl rfl rfl ?_
  refine x_is2 (pc := 17) (ml' := [some (.ref 67), some (.int (nI l)), some (.int (nI s)), some (.int (nI (sb D s j))), some (.int t), some (.int (nI (bN D (sb D s j)))), some (.int (nI 0)), none, none]) rfl rfl ?_
  refine x_const (pc := 19) (pc' := 20) (.int (nI 0)) rfl rfl rfl rfl ?_
  refine x_is2 (pc := 20) (ml' := [some (.ref 67), some (.int (nI l)), some (.int (nI s)), some (.int (nI (sb D s j))), some (.int t), some (.int (nI (bN D (sb D s j)))), some (.int (nI 0)), some (.int (nI 0)), none]) rfl rfl ?_
  refine l_148 (I := I1) (A := A1) hl hG hW hs hWs hj (bN D (sb D s j)) 0 none (by rw [g1 50 (by decide)]; exact h) (Nat.zero_add _) ((f1 61 (by decide)).trans h61) (fun I2 A2 w8 f2 g2 => ?_)
  refine x_al1 (pc := 131) rfl rfl ?_
  refine x_il1 (pc := 132) rfl rfl ?_
  refine p_67_19 (pc := 133) rfl rfl ?_
  refine x_al1 (pc := 136) rfl rfl ?_
  refine x_il1 (pc := 137) rfl rfl ?_
  refine x_k (pc := 138) rfl rfl rfl ⟨Nat.le_of_ble_eq_true rfl, Nat.le_of_ble_eq_true rfl, Nat.le_of_ble_eq_true rfl⟩ rfl (k_124 (I := va_up I2 71 (nI (sb D s j))) (A := A2) (k := s) (q := sb D s j) (by rw [g2 50 (by decide), g1 50 (by decide)]; exact h) hs rfl (WS_b hWs hj).2.1 (WS_b hWs hj).2.2.1 (by rw [WS_rq hWs hj]; omega) (fun I3 A3 f3 g3 e3 hg3 => ?_))
  show mq 148 141 [some (.ref 67), some (.int (nI l)), some (.int (nI s)), some (.int (nI (sb D s j))), some (.int t), some (.int (nI (bN D (sb D s j)))), some (.int (nI (mkM (pm D f bc cn (t.toInt64 - 100) s j) (bN D (sb D s j))))), some (.int (nI (bN D (sb D s j)))), w8] [] (hS n u I3 A3 J B mk sn L xs X) _
  refine x_il2 (pc := 141) rfl rfl ?_
  refine x_ret (pc := 143) rfl rfl ?_
  exact kk I3 A3 (Fr_cons (Fr_u (Fr_cons (Fr_cons (Fr_u (Fr_refl _ _) (by decide)) f1 (by decide)) f2 (by decide)) (by decide)) f3 (by decide)) (Fr_cons (Fr_cons (Fr_cons (Fr_refl _ _) g1 (by decide)) g2 (by decide)) g3 (by decide)) (e3.trans (congrArg nI (WS_rq hWs hj))) hg3
theorem bcn_le (m : Nat) : ∀ k, bcn m k ≤ k
  | 0 => Nat.le_refl 0
  | k + 1 => by
    have h := bcn_le m k
    have h2 : m / 2 ^ k % 2 ^ 1 < 2 ^ 1 := Nat.mod_lt _ (by decide)
    show bcn m k + m / 2 ^ k % 2 ^ 1 ≤ k + 1
    omega
set_option maxRecDepth 100000 in
set_option maxHeartbeats 4000000 in
theorem l_147c {l s at0 v m : Nat} {t : Int32} {p : Nat → Bool} (hm : m ≤ 4) (h65 : I 65 = nI m) (hmm : mkM p m < 16) {Q : mO × mHp → Prop} : ∀ (z k : Nat) , (k + z = m) → (mq 147 94 [some (.ref 67), some (.int (nI l)), some (.int (nI s)), some (.int t), some (.int (nI (v + (m - bcn (mkM p m) m)))), some (.int (nI at0)), some (.int (nI (mkM p m))), some (.int (nI m))] [] (hS n u I A J B mk sn L xs X) Q) → mq 147 65 [some (.ref 67), some (.int (nI l)), some (.int (nI s)), some (.int t), some (.int (nI (v + (k - bcn (mkM p m) k)))), some (.int (nI at0)), some (.int (nI (mkM p m))), some (.int (nI k))] [] (hS n u I A J B mk sn L xs X) Q := by
  intro z
  induction z with
  | zero =>
    intro k  hz kk
    refine x_il2 (pc := 65) rfl rfl ?_
    refine x_al1 (pc := 67) rfl rfl ?_
    refine g_67_9 (pc := 68) (v := nI m) rfl rfl h65 ?_
    refine x_cmpN_ge (pc := 71) (t := 94) rfl rfl (by omega) (by omega) (fun c71 => ?_) (fun c71 => ?_)
    · rw [show k = m by omega]
      exact kk
    · omega
  | succ z ih =>
    intro k  hz kk
    have qb := bcn_le (mkM p m) k
    have qx : mkM p m / 2 ^ k % 2 ^ 1 < 2 ^ 1 := Nat.mod_lt _ (by decide)
    refine x_il2 (pc := 65) rfl rfl ?_
    refine x_al1 (pc := 67) rfl rfl ?_
    refine g_67_9 (pc := 68) (v := nI m) rfl rfl h65 ?_
    refine x_cmpN_ge (pc := 71) (t := 94) rfl rfl (by omega) (by omega) (fun c71 => ?_) (fun c71 => ?_)
    · omega
    · refine x_il2 (pc := 74) rfl rfl ?_
      refine x_const (pc := 76) (pc' := 77) (.int (nI 1)) rfl rfl rfl rfl ?_
      refine x_il2 (pc := 77) rfl rfl ?_
      refine x_il2 (pc := 79) rfl rfl ?_
      refine x_ishrV (pc := 81) (v := nI (mkM p m / 2 ^ k)) rfl (shrk hmm (by omega)) ?_
      refine x_const (pc := 82) (pc' := 83) (.int (nI 1)) rfl rfl rfl rfl ?_
      refine x_iandV (pc := 83) (v := nI ((mkM p m / 2 ^ k) % 2 ^ 1)) rfl (pk_andN (lt32 hmm) 1 (by decide)) ?_
      refine x_isubN (pc := 84) rfl ((by omega)) ?_
      refine x_iaddV (pc := 85) (v := nI (v + (k + 1 - bcn (mkM p m) (k + 1)))) rfl ((nI_add _ _).trans (congrArg nI (by have e : bcn (mkM p m) (k + 1) = bcn (mkM p m) k + mkM p m / 2 ^ k % 2 ^ 1 := rfl; omega))) ?_
      refine x_is2 (pc := 86) (ml' := [some (.ref 67), some (.int (nI l)), some (.int (nI s)), some (.int t), some (.int (nI (v + (k + 1 - bcn (mkM p m) (k + 1))))), some (.int (nI at0)), some (.int (nI (mkM p m))), some (.int (nI k))]) rfl rfl ?_
      refine x_iincN (pc := 88) (c := 1) (ml' := [some (.ref 67), some (.int (nI l)), some (.int (nI s)), some (.int t), some (.int (nI (v + (k + 1 - bcn (mkM p m) (k + 1))))), some (.int (nI at0)), some (.int (nI (mkM p m))), some (.int (nI (k + 1)))]) rfl rfl rfl rfl ?_
      refine x_step (pc := 91) (pc' := 65) rfl rfl rfl rfl ?_
      exact ih (k + 1) (by omega) kk
theorem mkM_0 (g : Nat → R5) (p : Nat → Bool) (n : Nat) (h : (kc g p n).length = 0) : mkM p n = 0 := by
  refine Decidable.byContradiction (fun q => ?_)
  obtain ⟨k, hk, h1, h2⟩ := mkM_first p n q
  rw [← kp_first g p hk h2] at h
  obtain ⟨z, hz⟩ : ∃ z, n - k = z + 1 := ⟨n - k - 1, by omega⟩
  rw [hz, show kp g (mkM p n) (z + 1) k = g k :: kp g (mkM p n) z (k + 1) from if_neg (by rw [mkM_bit p n k hk, if_neg (by rw [h1]; decide)]; decide)] at h
  exact absurd h (by rw [List.length_cons]; omega)
set_option maxRecDepth 100000 in
set_option maxHeartbeats 4000000 in
theorem l_147 {l cn s c : Nat} {f bc : Nat → Nat} {t : Int32} (hl : l < 4) (hG : SG D l f cn) (hW : ∀ k, k < cn → WS D (f k) (bc (f k))) (hs : s < 16) (hWs : WS D s c) {Q : mO × mHp → Prop} : ∀ (z j : Nat) (w6 w7 : Option Value) {I : Nat → Int32} {A : Nat → Nat → Int32}, (DK (A 50) D) → (j + z = c) → (I 61 = nI 0) → (Tp I A (cT D s (pm D f bc cn (t.toInt64 - 100) s) j)) → (∀ I' A' w6' w7', Fr [65, 66, 67, 68, 71] I I' → Fr [52, 54] A A' → Tp I' A' (cT D s (pm D f bc cn (t.toInt64 - 100) s) c) → mq 147 129 [some (.ref 67), some (.int (nI l)), some (.int (nI s)), some (.int t), some (.int (nI (cO D s (pm D f bc cn (t.toInt64 - 100) s) c))), some (.int (nI (sb D s c))), w6', w7'] [] (hS n u I' A' J B mk sn L xs X) Q) → mq 147 35 [some (.ref 67), some (.int (nI l)), some (.int (nI s)), some (.int t), some (.int (nI (cO D s (pm D f bc cn (t.toInt64 - 100) s) j))), some (.int (nI (sb D s j))), w6, w7] [] (hS n u I A J B mk sn L xs X) Q := by
  intro z
  induction z with
  | zero =>
    intro j w6 w7 I A h hz h61 hT kk
    have q1 := WS_128 hWs
    have qe := WS_end hWs
    have hjc : sb D s j = 128 * s + mB D s := by rw [show j = c by omega]; exact WS_end hWs
    refine x_il2 (pc := 35) rfl rfl ?_
    refine x_al1 (pc := 37) rfl rfl ?_
    refine x_il1 (pc := 38) rfl rfl ?_
    refine x_k (pc := 39) rfl rfl rfl ⟨Nat.le_of_ble_eq_true rfl, Nat.le_of_ble_eq_true rfl, Nat.le_of_ble_eq_true rfl⟩ rfl (k_122 (I := I) (A := A) h hs ?_)
    show mq 147 42 [some (.ref 67), some (.int (nI l)), some (.int (nI s)), some (.int t), some (.int (nI (cO D s (pm D f bc cn (t.toInt64 - 100) s) j))), some (.int (nI (sb D s j))), w6, w7] [.int (nI (128 * s + mB D s)), .int (nI (sb D s j))] (hS n u I A J B mk sn L xs X) _
    refine x_cmpN_ge (pc := 42) (t := 129) rfl rfl (by omega) (by omega) (fun c42 => ?_) (fun c42 => ?_)
    · have hj : j = c := by omega
      rw [hj] at hT
      rw [hj]
      exact kk I A w6 w7 (Fr_refl _ _) (Fr_refl _ _) hT
    · omega
  | succ z ih =>
    intro j w6 w7 I A h hz h61 hT kk
    have q1 := WS_128 hWs
    have hj : j < c := by omega
    have q2 := WS_in hWs hj
    have q4 := (WS_b hWs hj).2.1
    have hmm : mkM ((pm D f bc cn (t.toInt64 - 100) s) j) (bN D (sb D s j)) < 16 := Nat.lt_of_lt_of_le (mkM_lt _ _) (Nat.pow_le_pow_right (show 0 < 2 by decide) q4)
    refine x_il2 (pc := 35) rfl rfl ?_
    refine x_al1 (pc := 37) rfl rfl ?_
    refine x_il1 (pc := 38) rfl rfl ?_
    refine x_k (pc := 39) rfl rfl rfl ⟨Nat.le_of_ble_eq_true rfl, Nat.le_of_ble_eq_true rfl, Nat.le_of_ble_eq_true rfl⟩ rfl (k_122 (I := I) (A := A) h hs ?_)
    show mq 147 42 [some (.ref 67), some (.int (nI l)), some (.int (nI s)), some (.int t), some (.int (nI (cO D s (pm D f bc cn (t.toInt64 - 100) s) j))), some (.int (nI (sb D s j))), w6, w7] [.int (nI (128 * s + mB D s)), .int (nI (sb D s j))] (hS n u I A J B mk sn L xs X) _
    refine x_cmpN_ge (pc := 42) (t := 129) rfl rfl (by omega) (by omega) (fun c42 => ?_) (fun c42 => ?_)
    · omega
    · refine x_al1 (pc := 45) rfl rfl ?_
      refine x_il1 (pc := 46) rfl rfl ?_
      refine x_il1 (pc := 47) rfl rfl ?_
      refine x_il2 (pc := 48) rfl rfl ?_
      refine x_il1 (pc := 50) rfl rfl ?_
      refine x_k (pc := 51) rfl rfl rfl ⟨Nat.le_of_ble_eq_true rfl, Nat.le_of_ble_eq_true rfl, Nat.le_of_ble_eq_true rfl⟩ rfl (k_148 (I := I) (A := A) (D := D) (j := j) (c := c) h hl hG hW hs hWs hj h61 (fun I1 A1 f1 g1 e1 hg => ?_))
      show mq 147 54 [some (.ref 67), some (.int (nI l)), some (.int (nI s)), some (.int t), some (.int (nI (cO D s (pm D f bc cn (t.toInt64 - 100) s) j))), some (.int (nI (sb D s j))), w6, w7] [.int (nI (mkM ((pm D f bc cn (t.toInt64 - 100) s) j) (bN D (sb D s j))))] (hS n u I1 A1 J B mk sn L xs X) _
      refine x_is2 (pc := 54) (ml' := [some (.ref 67), some (.int (nI l)), some (.int (nI s)), some (.int t), some (.int (nI (cO D s (pm D f bc cn (t.toInt64 - 100) s) j))), some (.int (nI (sb D s j))), some (.int (nI (mkM ((pm D f bc cn (t.toInt64 - 100) s) j) (bN D (sb D s j))))), w7]) rfl rfl ?_
      refine x_al1 (pc := 56) rfl rfl ?_
      refine g_67_19 (pc := 57) (v := nI (sb D s (j + 1))) rfl rfl e1 ?_
      refine x_is2 (pc := 60) (ml' := [some (.ref 67), some (.int (nI l)), some (.int (nI s)), some (.int t), some (.int (nI (cO D s (pm D f bc cn (t.toInt64 - 100) s) j))), some (.int (nI (sb D s (j + 1)))), some (.int (nI (mkM ((pm D f bc cn (t.toInt64 - 100) s) j) (bN D (sb D s j))))), w7]) rfl rfl ?_
      refine x_const (pc := 62) (pc' := 63) (.int (nI 0)) rfl rfl rfl rfl ?_
      refine x_is2 (pc := 63) (ml' := [some (.ref 67), some (.int (nI l)), some (.int (nI s)), some (.int t), some (.int (nI (cO D s (pm D f bc cn (t.toInt64 - 100) s) j))), some (.int (nI (sb D s (j + 1)))), some (.int (nI (mkM ((pm D f bc cn (t.toInt64 - 100) s) j) (bN D (sb D s j))))), some (.int (nI 0))]) rfl rfl ?_
      refine l_147c (I := I1) (A := A1) (v := cO D s (pm D f bc cn (t.toInt64 - 100) s) j) (m := bN D (sb D s j)) (p := (pm D f bc cn (t.toInt64 - 100) s) j) (at0 := sb D s (j + 1)) (WS_b hWs hj).2.1 hg.2.2.1 hmm (bN D (sb D s j)) 0 (Nat.zero_add _) ?_
      refine x_il2 (pc := 94) rfl rfl ?_
      refine x_ifN_eq (pc := 96) (t := 126) rfl rfl (by omega) (fun c96 => ?_) (fun c96 => ?_)
      · refine x_step (pc := 126) (pc' := 35) rfl rfl rfl rfl ?_
        have eO : cO D s (pm D f bc cn (t.toInt64 - 100) s) (j + 1) = cO D s (pm D f bc cn (t.toInt64 - 100) s) j + (bN D (sb D s j) - bcn (mkM ((pm D f bc cn (t.toInt64 - 100) s) j) (bN D (sb D s j))) (bN D (sb D s j))) := by
          rw [bcn_kc (r5 D (bB D s) (sb D s j))]
          rfl
        have eT : cT D s (pm D f bc cn (t.toInt64 - 100) s) (j + 1) = cT D s (pm D f bc cn (t.toInt64 - 100) s) j := if_pos (kc_0 _ _ _ c96)
        have ihk := ih (j + 1) (some (.int (nI (mkM ((pm D f bc cn (t.toInt64 - 100) s) j) (bN D (sb D s j)))))) (some (.int (nI (bN D (sb D s j))))) (I := I1) (A := A1) (by rw [(show Fr [52, 54] A A1 from (Fr_cons (Fr_refl _ _) g1 (by decide))) 50 (by decide)]; exact h) (by omega) ((f1 61 (by decide)).trans h61) (by rw [eT]; exact Tp_fr hT f1 g1 (by decide) (by decide)) (fun I3 A3 x6 x7 f3 g3 h3 => kk I3 A3 x6 x7 (Fr_cons (Fr_cons (Fr_refl _ _) f1 (by decide)) f3 (by decide)) (Fr_cons (Fr_cons (Fr_refl _ _) g1 (by decide)) g3 (by decide)) h3)
        rw [eO] at ihk
        exact ihk
      · obtain ⟨k0, hk0, hk1, hk2⟩ := mkM_first _ _ c96
        refine x_al1 (pc := 99) rfl rfl ?_
        refine x_al1 (pc := 100) rfl rfl ?_
        refine g_67_7 (pc := 101) rfl rfl ?_
        refine x_al1 (pc := 104) rfl rfl ?_
        refine g_67_9 (pc := 105) (v := nI (bN D (sb D s j))) rfl rfl hg.2.2.1 ?_
        refine x_il2 (pc := 108) rfl rfl ?_
        refine x_al1 (pc := 110) rfl rfl ?_
        refine x_il1 (pc := 111) rfl rfl ?_
        refine x_k (pc := 112) rfl rfl rfl ⟨Nat.le_of_ble_eq_true rfl, Nat.le_of_ble_eq_true rfl, Nat.le_of_ble_eq_true rfl⟩ rfl (mq_k (c_120 (I := I1) (A := A1) (D := D) (by rw [g1 50 (by decide)]; exact h) hs) ?_)
        show mq 147 115 [some (.ref 67), some (.int (nI l)), some (.int (nI s)), some (.int t), some (.int (nI (cO D s (pm D f bc cn (t.toInt64 - 100) s) j + (bN D (sb D s j) - bcn (mkM ((pm D f bc cn (t.toInt64 - 100) s) j) (bN D (sb D s j))) (bN D (sb D s j)))))), some (.int (nI (sb D s (j + 1)))), some (.int (nI (mkM ((pm D f bc cn (t.toInt64 - 100) s) j) (bN D (sb D s j))))), some (.int (nI (bN D (sb D s j))))] [.int (nI (bB D s)), .int (nI (mkM ((pm D f bc cn (t.toInt64 - 100) s) j) (bN D (sb D s j)))), .int (nI (bN D (sb D s j))), .ref 70, .ref 67] (hS n u I1 A1 J B mk sn L xs X) _
        refine x_al1 (pc := 115) rfl rfl ?_
        refine g_67_10 (pc := 116) (v := nI (bP D (sb D s j))) rfl rfl hg.1 ?_
        refine x_al1 (pc := 119) rfl rfl ?_
        refine g_67_11 (pc := 120) (v := bS D (sb D s j)) rfl rfl hg.2.1 ?_
        refine x_k (pc := 123) rfl rfl rfl ⟨Nat.le_of_ble_eq_true rfl, Nat.le_of_ble_eq_true rfl, Nat.le_of_ble_eq_true rfl⟩ rfl (k_127_52 (I := I1) (A := A1) (nn := bN D (sb D s j)) (m := mkM ((pm D f bc cn (t.toInt64 - 100) s) j) (bN D (sb D s j))) (k0 := k0) (ba := nI (bB D s)) (p := nI (bP D (sb D s j))) (s := bS D (sb D s j)) (g := r5 D (bB D s) (sb D s j)) (t := cT D s (pm D f bc cn (t.toInt64 - 100) s) j) hmm (WS_b hWs hj).2.1 hk0 (fun i hi => by rw [mkM_bit _ _ i (by omega), if_pos (hk2 i hi)]) (by rw [mkM_bit _ _ k0 hk0, if_neg (by rw [hk1]; decide)]; decide) (fun i hi => hg.2.2.2 i hi) (Tp_fr hT f1 g1 (by decide) (by decide)) (cT_nn hWs (pm D f bc cn (t.toInt64 - 100) s) hj) (fun I2 A2 f2 g2 h2 => ?_))
        show mq 147 126 [some (.ref 67), some (.int (nI l)), some (.int (nI s)), some (.int t), some (.int (nI (cO D s (pm D f bc cn (t.toInt64 - 100) s) j + (bN D (sb D s j) - bcn (mkM ((pm D f bc cn (t.toInt64 - 100) s) j) (bN D (sb D s j))) (bN D (sb D s j)))))), some (.int (nI (sb D s (j + 1)))), some (.int (nI (mkM ((pm D f bc cn (t.toInt64 - 100) s) j) (bN D (sb D s j))))), some (.int (nI (bN D (sb D s j))))] [] (hS n u I2 A2 J B mk sn L xs X) _
        refine x_step (pc := 126) (pc' := 35) rfl rfl rfl rfl ?_
        have eO : cO D s (pm D f bc cn (t.toInt64 - 100) s) (j + 1) = cO D s (pm D f bc cn (t.toInt64 - 100) s) j + (bN D (sb D s j) - bcn (mkM ((pm D f bc cn (t.toInt64 - 100) s) j) (bN D (sb D s j))) (bN D (sb D s j))) := by
          rw [bcn_kc (r5 D (bB D s) (sb D s j))]
          rfl
        rw [kp_first _ _ hk0 hk2] at h2
        have eT : cT D s (pm D f bc cn (t.toInt64 - 100) s) (j + 1) = cT D s (pm D f bc cn (t.toInt64 - 100) s) j ++ eBt (nI (bB D s)) (nI (bP D (sb D s j))) (bS D (sb D s j)) (kB D s ((pm D f bc cn (t.toInt64 - 100) s) j) j) := if_neg (fun w => c96 (mkM_0 _ _ _ w))
        have ihk := ih (j + 1) (some (.int (nI (mkM ((pm D f bc cn (t.toInt64 - 100) s) j) (bN D (sb D s j)))))) (some (.int (nI (bN D (sb D s j))))) (I := I2) (A := A2) (by rw [(show Fr [52, 54] A A2 from (Fr_cons (Fr_cons (Fr_refl _ _) g1 (by decide)) g2 (by decide))) 50 (by decide)]; exact h) (by omega) ((f2 61 (by decide)).trans ((f1 61 (by decide)).trans h61)) (by rw [eT]; exact h2) (fun I3 A3 x6 x7 f3 g3 h3 => kk I3 A3 x6 x7 (Fr_cons (Fr_cons (Fr_cons (Fr_refl _ _) f1 (by decide)) f2 (by decide)) f3 (by decide)) (Fr_cons (Fr_cons (Fr_cons (Fr_refl _ _) g1 (by decide)) g2 (by decide)) g3 (by decide)) h3)
        rw [eO] at ihk
        exact ihk
set_option maxRecDepth 100000 in
set_option maxHeartbeats 4000000 in
theorem k_147 (h : DK (A 50) D) {l cn s c : Nat} {f bc : Nat → Nat} {t : Int32} (hl : l < 4) (hG : SG D l f cn) (hW : ∀ k, k < cn → WS D (f k) (bc (f k))) (hs : s < 16) (hWs : WS D s c) (h61 : I 61 = nI 0) (hbb : bB D s < 2 ^ 31) {Q : mO × mHp → Prop} (kk : ∀ I' A', Fr [65, 66, 67, 68, 71] I I' → Fr [52, 54] A A' → Tp I' A' (cF D s (pm D f bc cn (t.toInt64 - 100) s) c) → Q (.inl (some (.int (nI (cO D s (pm D f bc cn (t.toInt64 - 100) s) c)))), hS n u I' A' J B mk sn L xs X)) : mq 147 0 [some (.ref 67), some (.int (nI l)), some (.int (nI s)), some (.int t), none, none, none, none] [] (hS n u I A J B mk sn L xs X) Q := by
  refine x_const (pc := 0) (pc' := 1) (.int (nI 0)) rfl rfl rfl rfl ?_
  refine x_is2 (pc := 1) (ml' := [some (.ref 67), some (.int (nI l)), some (.int (nI s)), some (.int t), some (.int (nI 0)), none, none, none]) rfl rfl ?_
  refine x_al1 (pc := 3) rfl rfl ?_
  refine x_il1 (pc := 4) rfl rfl ?_
  refine x_k (pc := 5) rfl rfl rfl ⟨Nat.le_of_ble_eq_true rfl, Nat.le_of_ble_eq_true rfl, Nat.le_of_ble_eq_true rfl⟩ rfl (k_121 (I := I) (A := A) ?_)
  show mq 147 8 [some (.ref 67), some (.int (nI l)), some (.int (nI s)), some (.int t), some (.int (nI 0)), none, none, none] [.int (nI (128 * s + 8))] (hS n u I A J B mk sn L xs X) _
  refine x_is2 (pc := 8) (ml' := [some (.ref 67), some (.int (nI l)), some (.int (nI s)), some (.int t), some (.int (nI 0)), some (.int (nI (128 * s + 8))), none, none]) rfl rfl ?_
  refine x_al1 (pc := 10) rfl rfl ?_
  refine x_const (pc := 11) (pc' := 12) (.int (nI 0)) rfl rfl rfl rfl ?_
  refine x_const (pc := 12) (pc' := 13) (.int (nI 0)) rfl rfl rfl rfl ?_
  refine x_al1 (pc := 13) rfl rfl ?_
  refine g_67_1 (pc := 14) rfl rfl ?_
  refine x_const (pc := 17) (pc' := 20) (.int (nI 128)) rfl rfl rfl rfl ?_
  refine x_il1 (pc := 20) rfl rfl ?_
  refine x_imulN (pc := 21) (c := 128 * s) rfl rfl ?_
  refine x_const (pc := 22) (pc' := 23) (.int (nI 3)) rfl rfl rfl rfl ?_
  refine x_iaddN (pc := 23) (c := (128 * s) + 3) rfl rfl ?_
  refine al_68 (pc := 24) (q := 128 * s + 3) (v := nI (gB D s)) rfl rfl (by omega) (show A 50 (128 * s + 3) = nI (gB D s) by rw [h.1]; rfl) ?_
  refine x_const (pc := 25) (pc' := 26) (.int (nI 1)) rfl rfl rfl rfl ?_
  refine x_iaddN (pc := 26) (c := (gB D s) + 1) rfl rfl ?_
  refine x_al1 (pc := 27) rfl rfl ?_
  refine x_il1 (pc := 28) rfl rfl ?_
  refine x_k (pc := 29) rfl rfl rfl ⟨Nat.le_of_ble_eq_true rfl, Nat.le_of_ble_eq_true rfl, Nat.le_of_ble_eq_true rfl⟩ rfl (mq_k (c_120 h hs) ?_)
  show mq 147 32 [some (.ref 67), some (.int (nI l)), some (.int (nI s)), some (.int t), some (.int (nI 0)), some (.int (nI (128 * s + 8))), none, none] [.int (nI (bB D s)), .int (nI ((gB D s) + 1)), .int (nI 0), .int (nI 0), .ref 67] (hS n u I A J B mk sn L xs X) _
  refine x_k (pc := 32) rfl rfl rfl ⟨Nat.le_of_ble_eq_true rfl, Nat.le_of_ble_eq_true rfl, Nat.le_of_ble_eq_true rfl⟩ rfl (k_132 (I := I) (A := A) (m := 0) (o := 0) (g := gB D s + 1) (b := bB D s) (by decide) hbb (fun I1 A1 f1 g1 h1 => ?_))
  show mq 147 35 [some (.ref 67), some (.int (nI l)), some (.int (nI s)), some (.int t), some (.int (nI 0)), some (.int (nI (128 * s + 8))), none, none] [] (hS n u I1 A1 J B mk sn L xs X) _
  refine l_147 (I := I1) (A := A1) (t := t) (c := c) hl hG hW hs hWs c 0 none none (by rw [g1 50 (by decide)]; exact h) (Nat.zero_add _) ((f1 61 (by decide)).trans h61) h1 (fun I2 A2 w6 w7 f2 g2 h2 => ?_)
  have q600 := cT_600 hWs (pm D f bc cn (t.toInt64 - 100) s) (Nat.le_refl c)
  have q8 := cT_8 D s (pm D f bc cn (t.toInt64 - 100) s) c
  refine x_al1 (pc := 129) rfl rfl ?_
  refine g_67_12 (pc := 130) rfl rfl ?_
  refine x_const (pc := 133) (pc' := 134) (.int (nI 0)) rfl rfl rfl rfl ?_
  refine x_al1 (pc := 134) rfl rfl ?_
  refine g_67_13 (pc := 135) (v := nI ((cT D s (pm D f bc cn (t.toInt64 - 100) s) c).length)) rfl rfl h2.1 ?_
  refine x_const (pc := 138) (pc' := 140) (.int (nI 8)) rfl rfl rfl rfl ?_
  refine x_ishrV (pc := 140) (v := nI ((cT D s (pm D f bc cn (t.toInt64 - 100) s) c).length / 2 ^ 8)) rfl (pk_shrN (by omega) _ 8 (by decide)) ?_
  refine x_top (y := nI ((cT D s (pm D f bc cn (t.toInt64 - 100) s) c).length / 2 ^ 8 % 256)) (congrArg nI (by omega)) ?_
  refine as_72 (pc := 141) (q := 0) rfl rfl (by omega) ?_
  refine x_al1 (pc := 142) rfl rfl ?_
  refine g_67_12 (pc := 143) rfl rfl ?_
  refine x_const (pc := 146) (pc' := 147) (.int (nI 1)) rfl rfl rfl rfl ?_
  refine x_al1 (pc := 147) rfl rfl ?_
  refine g_67_13 (pc := 148) (v := nI ((cT D s (pm D f bc cn (t.toInt64 - 100) s) c).length)) rfl rfl h2.1 ?_
  refine x_const (pc := 151) (pc' := 154) (.int (nI 255)) rfl rfl rfl rfl ?_
  refine x_iandV (pc := 154) (v := nI ((cT D s (pm D f bc cn (t.toInt64 - 100) s) c).length % 2 ^ 8)) rfl (pk_andN (by omega) 8 (by decide)) ?_
  refine x_top (y := nI ((cT D s (pm D f bc cn (t.toInt64 - 100) s) c).length % 256)) (rfl) ?_
  refine as_72 (pc := 155) (q := 1) rfl rfl (by omega) ?_
  refine x_il2 (pc := 156) rfl rfl ?_
  refine x_ret (pc := 158) rfl rfl ?_
  have h3 := Tp_set (I' := I2) (A' := va_up A2 54 (upd (A2 54) 0 (nI ((cT D s (pm D f bc cn (t.toInt64 - 100) s) c).length / 2 ^ 8 % 256)))) (p := 0) (v := (cT D s (pm D f bc cn (t.toInt64 - 100) s) c).length / 2 ^ 8 % 256) h2 (by omega) rfl rfl
  have h4 := Tp_set (I' := I2) (A' := va_up (va_up A2 54 (upd (A2 54) 0 (nI ((cT D s (pm D f bc cn (t.toInt64 - 100) s) c).length / 2 ^ 8 % 256)))) 54 (upd (upd (A2 54) 0 (nI ((cT D s (pm D f bc cn (t.toInt64 - 100) s) c).length / 2 ^ 8 % 256))) 1 (nI ((cT D s (pm D f bc cn (t.toInt64 - 100) s) c).length % 256)))) (p := 1) (v := (cT D s (pm D f bc cn (t.toInt64 - 100) s) c).length % 256) h3 (by rw [List.length_set]; omega) rfl rfl
  exact kk _ _ (Fr_cons (Fr_cons (Fr_refl _ _) f1 (by decide)) f2 (by decide)) (Fr_u (Fr_u (Fr_cons (Fr_cons (Fr_refl _ _) g1 (by decide)) g2 (by decide)) (by decide)) (by decide)) h4
end S68
