/-! retain: the model. -/
section S62
variable {n u : Nat} {I : Nat → Int32} {A : Nat → Nat → Int32} {J : Int64} {B : Nat → Int64} {mk sn L : Nat} {xs : Nat → Int32} {X : Nat → mC} {D : Nat → Nat} 
set_option maxRecDepth 100000 in
set_option maxHeartbeats 4000000 in
theorem k_152f {l t : Int32} (h61 : I 61 = nI 1) {Q : mO × mHp → Prop} (kk : Q (.inl (some (.int (nI 0))), hS n u I A J B mk sn L xs X)) : mq 152 0 [some (.ref 67), some (.int l), some (.int t), none, none, none, none, none] [] (hS n u I A J B mk sn L xs X) Q := by
  refine x_al1 (pc := 0) rfl rfl ?_
  refine x_il1 (pc := 1) rfl rfl ?_
  refine x_k (pc := 2) rfl rfl rfl ⟨Nat.le_of_ble_eq_true rfl, Nat.le_of_ble_eq_true rfl, Nat.le_of_ble_eq_true rfl⟩ rfl (k_117f (I := I) (A := A) h61 ?_)
  show mq 152 5 [some (.ref 67), some (.int l), some (.int t), none, none, none, none, none] [.int (nI 0)] (hS n u I A J B mk sn L xs X) _
  refine x_is1 (pc := 5) (ml' := [some (.ref 67), some (.int l), some (.int t), some (.int (nI 0)), none, none, none, none]) rfl rfl ?_
  refine x_al1 (pc := 6) rfl rfl ?_
  refine x_il1 (pc := 7) rfl rfl ?_
  refine x_const (pc := 8) (pc' := 9) (.int (nI 0)) rfl rfl rfl rfl ?_
  refine x_k (pc := 9) rfl rfl rfl ⟨Nat.le_of_ble_eq_true rfl, Nat.le_of_ble_eq_true rfl, Nat.le_of_ble_eq_true rfl⟩ rfl (k_119f (I := I) (A := A) h61 ?_)
  show mq 152 12 [some (.ref 67), some (.int l), some (.int t), some (.int (nI 0)), none, none, none, none] [.int (-1)] (hS n u I A J B mk sn L xs X) _
  refine x_is2 (pc := 12) (ml' := [some (.ref 67), some (.int l), some (.int t), some (.int (nI 0)), some (.int (-1)), none, none, none]) rfl rfl ?_
  refine x_const (pc := 14) (pc' := 15) (.int (nI 0)) rfl rfl rfl rfl ?_
  refine x_is2 (pc := 15) (ml' := [some (.ref 67), some (.int l), some (.int t), some (.int (nI 0)), some (.int (-1)), some (.int (nI 0)), none, none]) rfl rfl ?_
  refine x_il1 (pc := 17) rfl rfl ?_
  refine x_const (pc := 18) (pc' := 19) (.int (nI 2)) rfl rfl rfl rfl ?_
  refine x_cmpN_ge (pc := 19) (t := 24) rfl rfl (by decide) (by decide) (fun c => absurd c (by decide)) (fun _ => ?_)
  refine x_const (pc := 22) (pc' := 23) (.int (nI 0)) rfl rfl rfl rfl ?_
  refine x_ret (pc := 23) rfl rfl ?_
  exact kk
set_option maxRecDepth 100000 in
set_option maxHeartbeats 4000000 in
theorem l_152m {l cn s : Nat} {f : Nat → Nat} {t : Int32} (h : DK (A 50) D) (hl : l < 4) (hG : SG D l f cn) (h61 : I 61 = nI 0) {Q : mO × mHp → Prop} : ∀ (z v k : Nat) , (k + z = cn) → (mq 152 55 [some (.ref 67), some (.int (nI l)), some (.int t), some (.int (nI cn)), some (.int (nI s)), some (.int (nI (v + mkS D f z k))), some (.int (nI cn)), none] [] (hS n u I A J B mk sn L xs X) Q) → mq 152 27 [some (.ref 67), some (.int (nI l)), some (.int t), some (.int (nI cn)), some (.int (nI s)), some (.int (nI v)), some (.int (nI k)), none] [] (hS n u I A J B mk sn L xs X) Q := by
  intro z
  induction z with
  | zero =>
    intro v k  hz kk
    have q16 := SG_le hG
    refine x_il2 (pc := 27) rfl rfl ?_
    refine x_il1 (pc := 29) rfl rfl ?_
    refine x_cmpN_ge (pc := 30) (t := 55) rfl rfl (by omega) (by omega) (fun c30 => ?_) (fun c30 => ?_)
    · rw [show k = cn by omega]
      exact kk
    · omega
  | succ z ih =>
    intro v k  hz kk
    have q16 := SG_le hG
    refine x_il2 (pc := 27) rfl rfl ?_
    refine x_il1 (pc := 29) rfl rfl ?_
    refine x_cmpN_ge (pc := 30) (t := 55) rfl rfl (by omega) (by omega) (fun c30 => ?_) (fun c30 => ?_)
    · omega
    · refine x_il2 (pc := 33) rfl rfl ?_
      refine x_al1 (pc := 35) rfl rfl ?_
      refine x_al1 (pc := 36) rfl rfl ?_
      refine x_il1 (pc := 37) rfl rfl ?_
      refine x_il2 (pc := 38) rfl rfl ?_
      refine x_k (pc := 40) rfl rfl rfl ⟨Nat.le_of_ble_eq_true rfl, Nat.le_of_ble_eq_true rfl, Nat.le_of_ble_eq_true rfl⟩ rfl (k_119 (I := I) (A := A) (m := k) h hG (by omega) hl h61 ?_)
      show mq 152 43 [some (.ref 67), some (.int (nI l)), some (.int t), some (.int (nI cn)), some (.int (nI s)), some (.int (nI v)), some (.int (nI k)), none] [.int (nI (f k)), .ref 67, .int (nI v)] (hS n u I A J B mk sn L xs X) _
      refine x_k (pc := 43) rfl rfl rfl ⟨Nat.le_of_ble_eq_true rfl, Nat.le_of_ble_eq_true rfl, Nat.le_of_ble_eq_true rfl⟩ rfl (mq_k (c_123 h (hG.1 k (by omega)).1) ?_)
      show mq 152 46 [some (.ref 67), some (.int (nI l)), some (.int t), some (.int (nI cn)), some (.int (nI s)), some (.int (nI v)), some (.int (nI k)), none] [.int (nI (mB D (f k))), .int (nI v)] (hS n u I A J B mk sn L xs X) _
      refine x_iaddN (pc := 46) (c := v + (mB D (f k))) rfl rfl ?_
      refine x_is2 (pc := 47) (ml' := [some (.ref 67), some (.int (nI l)), some (.int t), some (.int (nI cn)), some (.int (nI s)), some (.int (nI (v + (mB D (f k))))), some (.int (nI k)), none]) rfl rfl ?_
      refine x_iincN (pc := 49) (c := 1) (ml' := [some (.ref 67), some (.int (nI l)), some (.int t), some (.int (nI cn)), some (.int (nI s)), some (.int (nI (v + (mB D (f k))))), some (.int (nI (k + 1))), none]) rfl rfl rfl rfl ?_
      refine x_step (pc := 52) (pc' := 27) rfl rfl rfl rfl ?_
      refine ih (v + mB D (f k)) (k + 1) (by omega) ?_
      rw [show v + mB D (f k) + mkS D f z (k + 1) = v + mkS D f (z + 1) k from Nat.add_assoc _ _ _]
      exact kk
set_option maxRecDepth 100000 in
set_option maxHeartbeats 4000000 in
theorem l_152r {l cn s v b q m : Nat} {t : Int32} (hm : m ≤ 4) (h65 : I 65 = nI m) (hr : GBn A D b q m) {Q : mO × mHp → Prop} : ∀ (z k : Nat) (o : Bool), (k + z = m) → (mq 152 137 [some (.ref 67), some (.int (nI l)), some (.int t), some (.int (nI cn)), some (.int (nI s)), some (.int (nI v)), some (.int (nI (if (o && tB D q (t.toInt64 - 1000) z k) = true then 1 else 0))), some (.int (nI m))] [] (hS n u I A J B mk sn L xs X) Q) → mq 152 90 [some (.ref 67), some (.int (nI l)), some (.int t), some (.int (nI cn)), some (.int (nI s)), some (.int (nI v)), some (.int (nI (if o = true then 1 else 0))), some (.int (nI k))] [] (hS n u I A J B mk sn L xs X) Q := by
  intro z
  induction z with
  | zero =>
    intro k o hz kk
    refine x_il2 (pc := 90) rfl rfl ?_
    refine x_al1 (pc := 92) rfl rfl ?_
    refine g_67_9 (pc := 93) (v := nI m) rfl rfl h65 ?_
    refine x_cmpN_ge (pc := 96) (t := 137) rfl rfl (by omega) (by omega) (fun c96 => ?_) (fun c96 => ?_)
    · rw [show k = m by omega]
      rw [show (o && tB D q (t.toInt64 - 1000) 0 k) = o from Bool.and_true o] at kk
      exact kk
    · omega
  | succ z ih =>
    intro k o hz kk
    refine x_il2 (pc := 90) rfl rfl ?_
    refine x_al1 (pc := 92) rfl rfl ?_
    refine g_67_9 (pc := 93) (v := nI m) rfl rfl h65 ?_
    refine x_cmpN_ge (pc := 96) (t := 137) rfl rfl (by omega) (by omega) (fun c96 => ?_) (fun c96 => ?_)
    · omega
    · refine x_il2 (pc := 99) rfl rfl ?_
      refine x_ifN_eq (pc := 101) (t := 128) rfl rfl (by split <;> omega) (fun c101 => ?_) (fun c101 => ?_)
      · have eo : o = false := ne_true (fun q => by rw [if_pos q] at c101; exact absurd c101 (by decide))
        have e129 : nI 0 = nI (if (o && decide ((tR D q k).toInt64 < (t.toInt64 - 1000))) = true then 1 else 0) := by
          rw [eo]
          rfl
        refine x_const (pc := 128) (pc' := 129) (.int (nI 0)) rfl rfl rfl rfl ?_
        refine x_top (y := nI (if (o && decide ((tR D q k).toInt64 < (t.toInt64 - 1000))) = true then 1 else 0)) (e129) ?_
        refine x_is2 (pc := 129) (ml' := [some (.ref 67), some (.int (nI l)), some (.int t), some (.int (nI cn)), some (.int (nI s)), some (.int (nI v)), some (.int (nI (if (o && decide ((tR D q k).toInt64 < (t.toInt64 - 1000))) = true then 1 else 0))), some (.int (nI k))]) rfl rfl ?_
        refine x_iincN (pc := 131) (c := 1) (ml' := [some (.ref 67), some (.int (nI l)), some (.int t), some (.int (nI cn)), some (.int (nI s)), some (.int (nI v)), some (.int (nI (if (o && decide ((tR D q k).toInt64 < (t.toInt64 - 1000))) = true then 1 else 0))), some (.int (nI (k + 1)))]) rfl rfl rfl rfl ?_
        refine x_step (pc := 134) (pc' := 90) rfl rfl rfl rfl ?_
        refine ih (k + 1) (o && decide ((tR D q k).toInt64 < (t.toInt64 - 1000))) (by omega) ?_
        rw [show (o && tB D q (t.toInt64 - 1000) (z + 1) k) = ((o && decide ((tR D q k).toInt64 < (t.toInt64 - 1000))) && tB D q (t.toInt64 - 1000) z (k + 1)) from (Bool.and_assoc _ _ _).symm] at kk
        exact kk
      · have eo : o = true := Decidable.byContradiction (fun q => c101 (if_neg q))
        refine x_al1 (pc := 104) rfl rfl ?_
        refine g_67_7 (pc := 105) rfl rfl ?_
        refine x_const (pc := 108) (pc' := 109) (.int (nI 4)) rfl rfl rfl rfl ?_
        refine x_il2 (pc := 109) rfl rfl ?_
        refine x_iaddN (pc := 111) (c := 4 + k) rfl rfl ?_
        refine al_70 (pc := 112) (q := 4 + k) (v := tR D q k) rfl rfl (by omega) ((hr k (by omega)).2.1) ?_
        refine x_i2l (pc := 113) rfl rfl ?_
        refine x_il1 (pc := 114) rfl rfl ?_
        refine x_i2l (pc := 115) rfl rfl ?_
        refine x_const (pc := 116) (pc' := 119) (.long 1000) rfl rfl rfl rfl ?_
        refine x_lsub (pc := 119) rfl rfl ?_
        refine x_step (pc := 120) (pc' := 121) (st' := [.int (lg_cmp ((tR D q k).toInt64) (t.toInt64 - 1000))]) rfl rfl rfl rfl ?_
        refine x_if_ge (pc := 121) (t := 128) rfl rfl rfl (fun c121 => ?_) (fun c121 => ?_)
        · have e129 : nI 0 = nI (if (o && decide ((tR D q k).toInt64 < (t.toInt64 - 1000))) = true then 1 else 0) := by
            rw [eo, decide_eq_false (fun q => absurd (lg_lt.mpr q) (Int32.not_lt.mpr c121))]
            rfl
          refine x_const (pc := 128) (pc' := 129) (.int (nI 0)) rfl rfl rfl rfl ?_
          refine x_top (y := nI (if (o && decide ((tR D q k).toInt64 < (t.toInt64 - 1000))) = true then 1 else 0)) (e129) ?_
          refine x_is2 (pc := 129) (ml' := [some (.ref 67), some (.int (nI l)), some (.int t), some (.int (nI cn)), some (.int (nI s)), some (.int (nI v)), some (.int (nI (if (o && decide ((tR D q k).toInt64 < (t.toInt64 - 1000))) = true then 1 else 0))), some (.int (nI k))]) rfl rfl ?_
          refine x_iincN (pc := 131) (c := 1) (ml' := [some (.ref 67), some (.int (nI l)), some (.int t), some (.int (nI cn)), some (.int (nI s)), some (.int (nI v)), some (.int (nI (if (o && decide ((tR D q k).toInt64 < (t.toInt64 - 1000))) = true then 1 else 0))), some (.int (nI (k + 1)))]) rfl rfl rfl rfl ?_
          refine x_step (pc := 134) (pc' := 90) rfl rfl rfl rfl ?_
          refine ih (k + 1) (o && decide ((tR D q k).toInt64 < (t.toInt64 - 1000))) (by omega) ?_
          rw [show (o && tB D q (t.toInt64 - 1000) (z + 1) k) = ((o && decide ((tR D q k).toInt64 < (t.toInt64 - 1000))) && tB D q (t.toInt64 - 1000) z (k + 1)) from (Bool.and_assoc _ _ _).symm] at kk
          exact kk
        · have e129 : nI 1 = nI (if (o && decide ((tR D q k).toInt64 < (t.toInt64 - 1000))) = true then 1 else 0) := by
            rw [eo, decide_eq_true (lg_lt.mp (Int32.not_le.mp c121))]
            rfl
          refine x_const (pc := 124) (pc' := 125) (.int (nI 1)) rfl rfl rfl rfl ?_
          refine x_step (pc := 125) (pc' := 129) rfl rfl rfl rfl ?_
          refine x_top (y := nI (if (o && decide ((tR D q k).toInt64 < (t.toInt64 - 1000))) = true then 1 else 0)) (e129) ?_
          refine x_is2 (pc := 129) (ml' := [some (.ref 67), some (.int (nI l)), some (.int t), some (.int (nI cn)), some (.int (nI s)), some (.int (nI v)), some (.int (nI (if (o && decide ((tR D q k).toInt64 < (t.toInt64 - 1000))) = true then 1 else 0))), some (.int (nI k))]) rfl rfl ?_
          refine x_iincN (pc := 131) (c := 1) (ml' := [some (.ref 67), some (.int (nI l)), some (.int t), some (.int (nI cn)), some (.int (nI s)), some (.int (nI v)), some (.int (nI (if (o && decide ((tR D q k).toInt64 < (t.toInt64 - 1000))) = true then 1 else 0))), some (.int (nI (k + 1)))]) rfl rfl rfl rfl ?_
          refine x_step (pc := 134) (pc' := 90) rfl rfl rfl rfl ?_
          refine ih (k + 1) (o && decide ((tR D q k).toInt64 < (t.toInt64 - 1000))) (by omega) ?_
          rw [show (o && tB D q (t.toInt64 - 1000) (z + 1) k) = ((o && decide ((tR D q k).toInt64 < (t.toInt64 - 1000))) && tB D q (t.toInt64 - 1000) z (k + 1)) from (Bool.and_assoc _ _ _).symm] at kk
          exact kk
set_option maxRecDepth 100000 in
set_option maxHeartbeats 4000000 in
theorem l_152b {l cn s v c : Nat} {t : Int32} (hs : s < 16) (hW : WS D s c) {Q : mO × mHp → Prop} : ∀ (z j : Nat) (o : Bool) (w7 : Option Value) {I : Nat → Int32} {A : Nat → Nat → Int32}, (DK (A 50) D) → (j + z = c) → (I 71 = nI (sb D s j)) → (∀ I' A' w7', Fr [65, 66, 67, 71] I I' → Fr [52] A A' → mq 152 140 [some (.ref 67), some (.int (nI l)), some (.int t), some (.int (nI cn)), some (.int (nI s)), some (.int (nI v)), some (.int (nI (if (o && tS D s (t.toInt64 - 1000) z j) = true then 1 else 0))), w7'] [] (hS n u I' A' J B mk sn L xs X) Q) → mq 152 68 [some (.ref 67), some (.int (nI l)), some (.int t), some (.int (nI cn)), some (.int (nI s)), some (.int (nI v)), some (.int (nI (if o = true then 1 else 0))), w7] [] (hS n u I A J B mk sn L xs X) Q := by
  intro z
  induction z with
  | zero =>
    intro j o w7 I A h hz h71 kk
    have q1 := WS_128 hW
    have hj : j = c := by omega
    have hjc : sb D s j = 128 * s + mB D s := by rw [hj]; exact WS_end hW
    refine x_al1 (pc := 68) rfl rfl ?_
    refine g_67_19 (pc := 69) (v := nI (sb D s j)) rfl rfl h71 ?_
    refine x_al1 (pc := 72) rfl rfl ?_
    refine x_il2 (pc := 73) rfl rfl ?_
    refine x_k (pc := 75) rfl rfl rfl ⟨Nat.le_of_ble_eq_true rfl, Nat.le_of_ble_eq_true rfl, Nat.le_of_ble_eq_true rfl⟩ rfl (k_122 (I := I) (A := A) h hs ?_)
    show mq 152 78 [some (.ref 67), some (.int (nI l)), some (.int t), some (.int (nI cn)), some (.int (nI s)), some (.int (nI v)), some (.int (nI (if o = true then 1 else 0))), w7] [.int (nI (128 * s + mB D s)), .int (nI (sb D s j))] (hS n u I A J B mk sn L xs X) _
    refine x_cmpN_ge (pc := 78) (t := 140) rfl rfl (by omega) (by omega) (fun c78 => ?_) (fun c78 => ?_)
    · rw [show (o && tS D s (t.toInt64 - 1000) 0 j) = o from Bool.and_true o] at kk
      exact kk I A w7 (Fr_refl _ _) (Fr_refl _ _)
    · omega
  | succ z ih =>
    intro j o w7 I A h hz h71 kk
    have q1 := WS_128 hW
    have hj : j < c := by omega
    have q2 := WS_in hW hj
    refine x_al1 (pc := 68) rfl rfl ?_
    refine g_67_19 (pc := 69) (v := nI (sb D s j)) rfl rfl h71 ?_
    refine x_al1 (pc := 72) rfl rfl ?_
    refine x_il2 (pc := 73) rfl rfl ?_
    refine x_k (pc := 75) rfl rfl rfl ⟨Nat.le_of_ble_eq_true rfl, Nat.le_of_ble_eq_true rfl, Nat.le_of_ble_eq_true rfl⟩ rfl (k_122 (I := I) (A := A) h hs ?_)
    show mq 152 78 [some (.ref 67), some (.int (nI l)), some (.int t), some (.int (nI cn)), some (.int (nI s)), some (.int (nI v)), some (.int (nI (if o = true then 1 else 0))), w7] [.int (nI (128 * s + mB D s)), .int (nI (sb D s j))] (hS n u I A J B mk sn L xs X) _
    refine x_cmpN_ge (pc := 78) (t := 140) rfl rfl (by omega) (by omega) (fun c78 => ?_) (fun c78 => ?_)
    · omega
    · refine x_al1 (pc := 81) rfl rfl ?_
      refine x_il2 (pc := 82) rfl rfl ?_
      refine x_k (pc := 84) rfl rfl rfl ⟨Nat.le_of_ble_eq_true rfl, Nat.le_of_ble_eq_true rfl, Nat.le_of_ble_eq_true rfl⟩ rfl (k_124 (I := I) (A := A) (k := s) (q := sb D s j) h hs h71 (WS_b hW hj).2.1 (WS_b hW hj).2.2.1 (by rw [WS_rq hW hj]; omega) (fun I1 A1 f1 g1 e1 hg => ?_))
      show mq 152 87 [some (.ref 67), some (.int (nI l)), some (.int t), some (.int (nI cn)), some (.int (nI s)), some (.int (nI v)), some (.int (nI (if o = true then 1 else 0))), w7] [] (hS n u I1 A1 J B mk sn L xs X) _
      refine x_const (pc := 87) (pc' := 88) (.int (nI 0)) rfl rfl rfl rfl ?_
      refine x_is2 (pc := 88) (ml' := [some (.ref 67), some (.int (nI l)), some (.int t), some (.int (nI cn)), some (.int (nI s)), some (.int (nI v)), some (.int (nI (if o = true then 1 else 0))), some (.int (nI 0))]) rfl rfl ?_
      refine l_152r (A := A1) (b := bB D s) (q := sb D s j) (m := bN D (sb D s j)) (WS_b hW hj).2.1 hg.2.2.1 hg.2.2.2 (bN D (sb D s j)) 0 o (Nat.zero_add _) ?_
      refine x_step (pc := 137) (pc' := 68) rfl rfl rfl rfl ?_
      refine ih (j + 1) (o && tB D (sb D s j) (t.toInt64 - 1000) (bN D (sb D s j)) 0) _ (I := I1) (A := A1) (by rw [g1 50 (by decide)]; exact h) (by omega) (e1.trans (congrArg nI (WS_rq hW hj))) (fun I2 A2 w f2 g2 => ?_)
      rw [show (o && tS D s (t.toInt64 - 1000) (z + 1) j) = ((o && tB D (sb D s j) (t.toInt64 - 1000) (bN D (sb D s j)) 0) && tS D s (t.toInt64 - 1000) z (j + 1)) from (Bool.and_assoc _ _ _).symm] at kk
      exact kk I2 A2 w (Fr_cons f1 f2 (by decide)) (Fr_cons g1 g2 (by decide))
set_option maxRecDepth 100000 in
set_option maxHeartbeats 4000000 in
theorem k_152z {l cn : Nat} {f bc : Nat → Nat} {t : Int32} (h : DK (A 50) D) (hl : l < 4) (hG : SG D l f cn) (h61 : I 61 = nI 0) (hc0 : cn = 0) {Q : mO × mHp → Prop} (kk : ∀ I' A', Fr [65, 66, 67, 71] I I' → Fr [52] A A' → Q (.inl (some (.int (nI (if go D f bc cn (t.toInt64 - 1000) = true then 1 else 0)))), hS n u I' A' J B mk sn L xs X)) : mq 152 0 [some (.ref 67), some (.int (nI l)), some (.int t), none, none, none, none, none] [] (hS n u I A J B mk sn L xs X) Q := by
  have q16 := SG_le hG
  refine x_al1 (pc := 0) rfl rfl ?_
  refine x_il1 (pc := 1) rfl rfl ?_
  refine x_k (pc := 2) rfl rfl rfl ⟨Nat.le_of_ble_eq_true rfl, Nat.le_of_ble_eq_true rfl, Nat.le_of_ble_eq_true rfl⟩ rfl (k_117 (I := I) (A := A) h hl h61 ?_)
  show mq 152 5 [some (.ref 67), some (.int (nI l)), some (.int t), none, none, none, none, none] [.int (nI (cS (ow D l) 16))] (hS n u I A J B mk sn L xs X) _
  refine x_top (y := nI cn) (congrArg nI (SG_n hG)) ?_
  refine x_is1 (pc := 5) (ml' := [some (.ref 67), some (.int (nI l)), some (.int t), some (.int (nI cn)), none, none, none, none]) rfl rfl ?_
  refine x_al1 (pc := 6) rfl rfl ?_
  refine x_il1 (pc := 7) rfl rfl ?_
  refine x_const (pc := 8) (pc' := 9) (.int (nI 0)) rfl rfl rfl rfl ?_
  refine x_k (pc := 9) rfl rfl rfl ⟨Nat.le_of_ble_eq_true rfl, Nat.le_of_ble_eq_true rfl, Nat.le_of_ble_eq_true rfl⟩ rfl (k_119n (I := I) (A := A) h hl h61 (fun s hs q => by obtain ⟨k, hk, _⟩ := hG.2.1 s hs q; omega) ?_)
  show mq 152 12 [some (.ref 67), some (.int (nI l)), some (.int t), some (.int (nI cn)), none, none, none, none] [.int (-1)] (hS n u I A J B mk sn L xs X) _
  refine x_is2 (pc := 12) (ml' := [some (.ref 67), some (.int (nI l)), some (.int t), some (.int (nI cn)), some (.int (-1)), none, none, none]) rfl rfl ?_
  refine x_const (pc := 14) (pc' := 15) (.int (nI 0)) rfl rfl rfl rfl ?_
  refine x_is2 (pc := 15) (ml' := [some (.ref 67), some (.int (nI l)), some (.int t), some (.int (nI cn)), some (.int (-1)), some (.int (nI 0)), none, none]) rfl rfl ?_
  refine x_il1 (pc := 17) rfl rfl ?_
  refine x_const (pc := 18) (pc' := 19) (.int (nI 2)) rfl rfl rfl rfl ?_
  refine x_cmpN_ge (pc := 19) (t := 24) rfl rfl (by omega) (by omega) (fun c19 => ?_) (fun c19 => ?_)
  · omega
  · refine x_const (pc := 22) (pc' := 23) (.int (nI 0)) rfl rfl rfl rfl ?_
    refine x_ret (pc := 23) rfl rfl ?_
    rw [go_0 (by omega)] at kk
    exact kk I A (Fr_refl _ _) (Fr_refl _ _)
set_option maxRecDepth 100000 in
set_option maxHeartbeats 4000000 in
theorem k_152p {l cn : Nat} {f bc : Nat → Nat} {t : Int32} (h : DK (A 50) D) (hl : l < 4) (hG : SG D l f cn) (h61 : I 61 = nI 0) (hW : ∀ k, k < cn → WS D (f k) (bc (f k))) (hc0 : 0 < cn) (hne : 1 < cn → 1 ≤ bc (f 0)) {Q : mO × mHp → Prop} (kk : ∀ I' A', Fr [65, 66, 67, 71] I I' → Fr [52] A A' → Q (.inl (some (.int (nI (if go D f bc cn (t.toInt64 - 1000) = true then 1 else 0)))), hS n u I' A' J B mk sn L xs X)) : mq 152 0 [some (.ref 67), some (.int (nI l)), some (.int t), none, none, none, none, none] [] (hS n u I A J B mk sn L xs X) Q := by
  have q16 := SG_le hG
  have hms := mkS_le (fun k hk => ⟨(hG.1 k hk).1, hW k hk⟩)
  have hf0 := (hG.1 0 hc0).1
  have q8 := WS_8 (hW 0 hc0)
  have q128 := WS_128 (hW 0 hc0)
  refine x_al1 (pc := 0) rfl rfl ?_
  refine x_il1 (pc := 1) rfl rfl ?_
  refine x_k (pc := 2) rfl rfl rfl ⟨Nat.le_of_ble_eq_true rfl, Nat.le_of_ble_eq_true rfl, Nat.le_of_ble_eq_true rfl⟩ rfl (k_117 (I := I) (A := A) h hl h61 ?_)
  show mq 152 5 [some (.ref 67), some (.int (nI l)), some (.int t), none, none, none, none, none] [.int (nI (cS (ow D l) 16))] (hS n u I A J B mk sn L xs X) _
  refine x_top (y := nI cn) (congrArg nI (SG_n hG)) ?_
  refine x_is1 (pc := 5) (ml' := [some (.ref 67), some (.int (nI l)), some (.int t), some (.int (nI cn)), none, none, none, none]) rfl rfl ?_
  refine x_al1 (pc := 6) rfl rfl ?_
  refine x_il1 (pc := 7) rfl rfl ?_
  refine x_const (pc := 8) (pc' := 9) (.int (nI 0)) rfl rfl rfl rfl ?_
  refine x_k (pc := 9) rfl rfl rfl ⟨Nat.le_of_ble_eq_true rfl, Nat.le_of_ble_eq_true rfl, Nat.le_of_ble_eq_true rfl⟩ rfl (k_119 (I := I) (A := A) (m := 0) h hG (by omega) hl h61 ?_)
  show mq 152 12 [some (.ref 67), some (.int (nI l)), some (.int t), some (.int (nI cn)), none, none, none, none] [.int (nI (f 0))] (hS n u I A J B mk sn L xs X) _
  refine x_is2 (pc := 12) (ml' := [some (.ref 67), some (.int (nI l)), some (.int t), some (.int (nI cn)), some (.int (nI (f 0))), none, none, none]) rfl rfl ?_
  refine x_const (pc := 14) (pc' := 15) (.int (nI 0)) rfl rfl rfl rfl ?_
  refine x_is2 (pc := 15) (ml' := [some (.ref 67), some (.int (nI l)), some (.int t), some (.int (nI cn)), some (.int (nI (f 0))), some (.int (nI 0)), none, none]) rfl rfl ?_
  refine x_il1 (pc := 17) rfl rfl ?_
  refine x_const (pc := 18) (pc' := 19) (.int (nI 2)) rfl rfl rfl rfl ?_
  refine x_cmpN_ge (pc := 19) (t := 24) rfl rfl (by omega) (by omega) (fun c19 => ?_) (fun c19 => ?_)
  · refine x_const (pc := 24) (pc' := 25) (.int (nI 1)) rfl rfl rfl rfl ?_
    refine x_is2 (pc := 25) (ml' := [some (.ref 67), some (.int (nI l)), some (.int t), some (.int (nI cn)), some (.int (nI (f 0))), some (.int (nI 0)), some (.int (nI 1)), none]) rfl rfl ?_
    refine l_152m h hl hG h61 (cn - 1) 0 1 (by omega) ?_
    refine x_const (pc := 55) (pc' := 56) (.int (nI 1)) rfl rfl rfl rfl ?_
    refine x_is2 (pc := 56) (ml' := [some (.ref 67), some (.int (nI l)), some (.int t), some (.int (nI cn)), some (.int (nI (f 0))), some (.int (nI (0 + mkS D f (cn - 1) 1))), some (.int (nI 1)), none]) rfl rfl ?_
    refine x_al1 (pc := 58) rfl rfl ?_
    refine x_al1 (pc := 59) rfl rfl ?_
    refine x_il2 (pc := 60) rfl rfl ?_
    refine x_k (pc := 62) rfl rfl rfl ⟨Nat.le_of_ble_eq_true rfl, Nat.le_of_ble_eq_true rfl, Nat.le_of_ble_eq_true rfl⟩ rfl (k_121 (I := I) (A := A) ?_)
    show mq 152 65 [some (.ref 67), some (.int (nI l)), some (.int t), some (.int (nI cn)), some (.int (nI (f 0))), some (.int (nI (0 + mkS D f (cn - 1) 1))), some (.int (nI 1)), none] [.int (nI (128 * f 0 + 8)), .ref 67] (hS n u I A J B mk sn L xs X) _
    refine p_67_19 (pc := 65) rfl rfl ?_
    refine l_152b (I := va_up I 71 (nI (128 * f 0 + 8))) (A := A) (s := f 0) (c := bc (f 0)) (v := 0 + mkS D f (cn - 1) 1) (hG.1 0 (by omega)).1 (hW 0 (by omega)) (bc (f 0)) 0 true none h (Nat.zero_add _) rfl (fun I2 A2 w7 f2 g2 => ?_)
    rw [Bool.true_and]
    refine x_il2 (pc := 140) rfl rfl ?_
    refine x_ifN_eq (pc := 142) (t := 173) rfl rfl (by split <;> omega) (fun c142 => ?_) (fun c142 => ?_)
    · have eT : tS D (f 0) (t.toInt64 - 1000) (bc (f 0)) 0 = false := ne_true (fun q => by rw [if_pos q] at c142; exact absurd c142 (by decide))
      refine x_il2 (pc := 173) rfl rfl ?_
      refine x_const (pc := 175) (pc' := 178) (.int (nI 240)) rfl rfl rfl rfl ?_
      refine x_cmpN_lt (pc := 178) (t := 185) rfl rfl (by omega) (by omega) (fun c178 => ?_) (fun c178 => ?_)
      · have eg : go D f bc cn (t.toInt64 - 1000) = false := by
          unfold go
          rw [decide_eq_true (show 1 < cn by omega), eT, decide_eq_false (by omega)]
          rfl
        rw [eg] at kk
        refine x_const (pc := 185) (pc' := 186) (.int (nI 0)) rfl rfl rfl rfl ?_
        refine x_ret (pc := 186) rfl rfl ?_
        exact kk _ _ (Fr_cons (Fr_u (Fr_refl _ _) (by decide)) f2 (by decide)) (Fr_cons (Fr_refl _ _) g2 (by decide))
      · have eg : go D f bc cn (t.toInt64 - 1000) = true := by
          unfold go
          rw [decide_eq_true (show 1 < cn by omega), decide_eq_true (show 240 ≤ mkS D f (cn - 1) 1 by omega), Bool.or_true]
          rfl
        rw [eg] at kk
        refine x_const (pc := 181) (pc' := 182) (.int (nI 1)) rfl rfl rfl rfl ?_
        refine x_step (pc := 182) (pc' := 186) rfl rfl rfl rfl ?_
        refine x_ret (pc := 186) rfl rfl ?_
        exact kk _ _ (Fr_cons (Fr_u (Fr_refl _ _) (by decide)) f2 (by decide)) (Fr_cons (Fr_refl _ _) g2 (by decide))
    · have eT : tS D (f 0) (t.toInt64 - 1000) (bc (f 0)) 0 = true := Decidable.byContradiction (fun q => c142 (if_neg q))
      refine x_al1 (pc := 145) rfl rfl ?_
      refine x_il2 (pc := 146) rfl rfl ?_
      refine x_k (pc := 148) rfl rfl rfl ⟨Nat.le_of_ble_eq_true rfl, Nat.le_of_ble_eq_true rfl, Nat.le_of_ble_eq_true rfl⟩ rfl (k_121 (I := I2) (A := A2) ?_)
      show mq 152 151 [some (.ref 67), some (.int (nI l)), some (.int t), some (.int (nI cn)), some (.int (nI (f 0))), some (.int (nI (0 + mkS D f (cn - 1) 1))), some (.int (nI (if tS D (f 0) (t.toInt64 - 1000) (bc (f 0)) 0 = true then 1 else 0))), w7] [.int (nI (128 * f 0 + 8))] (hS n u I2 A2 J B mk sn L xs X) _
      refine x_al1 (pc := 151) rfl rfl ?_
      refine x_il2 (pc := 152) rfl rfl ?_
      refine x_k (pc := 154) rfl rfl rfl ⟨Nat.le_of_ble_eq_true rfl, Nat.le_of_ble_eq_true rfl, Nat.le_of_ble_eq_true rfl⟩ rfl (k_122 (I := I2) (A := A2) (D := D) (by rw [g2 50 (by decide)]; exact h) (hG.1 0 (by omega)).1 ?_)
      show mq 152 157 [some (.ref 67), some (.int (nI l)), some (.int t), some (.int (nI cn)), some (.int (nI (f 0))), some (.int (nI (0 + mkS D f (cn - 1) 1))), some (.int (nI (if tS D (f 0) (t.toInt64 - 1000) (bc (f 0)) 0 = true then 1 else 0))), w7] [.int (nI (128 * f 0 + mB D (f 0))), .int (nI (128 * f 0 + 8))] (hS n u I2 A2 J B mk sn L xs X) _
      refine x_cmpN_lt (pc := 157) (t := 181) rfl rfl (by omega) (by omega) (fun c157 => ?_) (fun c157 => ?_)
      · have eg : go D f bc cn (t.toInt64 - 1000) = true := by
          unfold go
          rw [decide_eq_true (show 1 < cn by omega), eT]
          rfl
        rw [eg] at kk
        refine x_const (pc := 181) (pc' := 182) (.int (nI 1)) rfl rfl rfl rfl ?_
        refine x_step (pc := 182) (pc' := 186) rfl rfl rfl rfl ?_
        refine x_ret (pc := 186) rfl rfl ?_
        exact kk _ _ (Fr_cons (Fr_u (Fr_refl _ _) (by decide)) f2 (by decide)) (Fr_cons (Fr_refl _ _) g2 (by decide))
      · omega
  · rw [go_0 (by omega)] at kk
    refine x_const (pc := 22) (pc' := 23) (.int (nI 0)) rfl rfl rfl rfl ?_
    refine x_ret (pc := 23) rfl rfl ?_
    exact kk _ _ (Fr_refl _ _) (Fr_refl _ _)
set_option maxRecDepth 100000 in
set_option maxHeartbeats 4000000 in
theorem k_152 {l cn : Nat} {f bc : Nat → Nat} {t : Int32} (h : DK (A 50) D) (hl : l < 4) (hG : SG D l f cn) (h61 : I 61 = nI 0) (hW : ∀ k, k < cn → WS D (f k) (bc (f k))) (hne : 1 < cn → 1 ≤ bc (f 0)) {Q : mO × mHp → Prop} (kk : ∀ I' A', Fr [65, 66, 67, 71] I I' → Fr [52] A A' → Q (.inl (some (.int (nI (if go D f bc cn (t.toInt64 - 1000) = true then 1 else 0)))), hS n u I' A' J B mk sn L xs X)) : mq 152 0 [some (.ref 67), some (.int (nI l)), some (.int t), none, none, none, none, none] [] (hS n u I A J B mk sn L xs X) Q := by
  rcases Nat.eq_zero_or_pos cn with h0 | h0
  · exact k_152z h hl hG h61 h0 kk
  · exact k_152p h hl hG h61 hW h0 hne kk
set_option maxRecDepth 100000 in
set_option maxHeartbeats 4000000 in
theorem k_151x {l t : Int32} (h61 : I 61 = nI 1) {Q : mO × mHp → Prop} (kk : Q (.inl (some (.int (nI 0))), hS n u (va_up I 60 (nI 1)) A J B mk sn L xs X)) : mq 151 0 [some (.ref 67), some (.int l), some (.int t), none] [] (hS n u I A J B mk sn L xs X) Q := by
  refine x_al1 (pc := 0) rfl rfl ?_
  refine x_al1 (pc := 1) rfl rfl ?_
  refine g_67_2 (pc := 2) (v := nI 1) rfl rfl h61 ?_
  refine x_ifN_eq (pc := 5) (t := 12) rfl rfl (by decide) (fun c => absurd c (by decide)) (fun _ => ?_)
  refine x_const (pc := 8) (pc' := 9) (.int (nI 1)) rfl rfl rfl rfl ?_
  refine x_step (pc := 9) (pc' := 26) rfl rfl rfl rfl ?_
  refine x_k (pc := 26) rfl rfl rfl ⟨Nat.le_of_ble_eq_true rfl, Nat.le_of_ble_eq_true rfl, Nat.le_of_ble_eq_true rfl⟩ rfl (k_114 (I := I) (A := A) (w := 1) (by decide) ?_)
  show mq 151 29 [some (.ref 67), some (.int l), some (.int t), none] [.int (nI 1)] (hS n u (va_up I 60 (nI 1)) A J B mk sn L xs X) _
  refine x_ifN_eq (pc := 29) (t := 34) rfl rfl (by decide) (fun c => absurd c (by decide)) (fun _ => ?_)
  refine x_const (pc := 32) (pc' := 33) (.int (nI 0)) rfl rfl rfl rfl ?_
  refine x_ret (pc := 33) rfl rfl ?_
  exact kk
set_option maxRecDepth 100000 in
set_option maxHeartbeats 4000000 in
theorem k_151b {l t : Int32} (h61 : I 61 = nI 0) (hx : l < 0 ∨ nI 2 ≤ l) {Q : mO × mHp → Prop} (kk : Q (.inl (some (.int (nI 0))), hS n u (va_up I 60 (nI 2)) A J B mk sn L xs X)) : mq 151 0 [some (.ref 67), some (.int l), some (.int t), none] [] (hS n u I A J B mk sn L xs X) Q := by
  refine x_al1 (pc := 0) rfl rfl ?_
  refine x_al1 (pc := 1) rfl rfl ?_
  refine g_67_2 (pc := 2) (v := nI 0) rfl rfl h61 ?_
  refine x_ifN_eq (pc := 5) (t := 12) rfl rfl (by decide) (fun _ => ?_) (fun c => absurd c (by decide))
  refine x_il1 (pc := 12) rfl rfl ?_
  refine x_if_lt (pc := 13) (t := 21) rfl rfl rfl (fun c13 => ?_) (fun c13 => ?_)
  · refine x_const (pc := 21) (pc' := 22) (.int (nI 2)) rfl rfl rfl rfl ?_
    refine x_step (pc := 22) (pc' := 26) rfl rfl rfl rfl ?_
    refine x_k (pc := 26) rfl rfl rfl ⟨Nat.le_of_ble_eq_true rfl, Nat.le_of_ble_eq_true rfl, Nat.le_of_ble_eq_true rfl⟩ rfl (k_114 (I := I) (A := A) (w := 2) (by decide) ?_)
    show mq 151 29 [some (.ref 67), some (.int l), some (.int t), none] [.int (nI 1)] (hS n u (va_up I 60 (nI 2)) A J B mk sn L xs X) _
    refine x_ifN_eq (pc := 29) (t := 34) rfl rfl (by decide) (fun c => absurd c (by decide)) (fun _ => ?_)
    refine x_const (pc := 32) (pc' := 33) (.int (nI 0)) rfl rfl rfl rfl ?_
    refine x_ret (pc := 33) rfl rfl ?_
    exact kk
  · refine x_il1 (pc := 16) rfl rfl ?_
    refine x_const (pc := 17) (pc' := 18) (.int (nI 1)) rfl rfl rfl rfl ?_
    refine x_cmp_le (pc := 18) (t := 25) rfl rfl rfl (fun c18 => ?_) (fun c18 => ?_)
    · rcases hx with h | h
      · exact absurd h c13
      · exact absurd h (ngt_of (m := 1) (by decide) (Int32.not_lt.mpr c18))
    · refine x_const (pc := 21) (pc' := 22) (.int (nI 2)) rfl rfl rfl rfl ?_
      refine x_step (pc := 22) (pc' := 26) rfl rfl rfl rfl ?_
      refine x_k (pc := 26) rfl rfl rfl ⟨Nat.le_of_ble_eq_true rfl, Nat.le_of_ble_eq_true rfl, Nat.le_of_ble_eq_true rfl⟩ rfl (k_114 (I := I) (A := A) (w := 2) (by decide) ?_)
      show mq 151 29 [some (.ref 67), some (.int l), some (.int t), none] [.int (nI 1)] (hS n u (va_up I 60 (nI 2)) A J B mk sn L xs X) _
      refine x_ifN_eq (pc := 29) (t := 34) rfl rfl (by decide) (fun c => absurd c (by decide)) (fun _ => ?_)
      refine x_const (pc := 32) (pc' := 33) (.int (nI 0)) rfl rfl rfl rfl ?_
      refine x_ret (pc := 33) rfl rfl ?_
      exact kk
set_option maxRecDepth 100000 in
set_option maxHeartbeats 4000000 in
theorem l_151 {l : Nat} {bc : Nat → Nat} {t : Int32} (hl : l < 4) {Q : mO × mHp → Prop} : ∀ (z gn cn : Nat) {S : DS} {f : Nat → Nat} {I : Nat → Int32} {A : Nat → Nat → Int32}, (mD S I A) → (dO S = false → cn ≤ z + 1) → (dO S = false → SG (dD S) l f cn) → (dO S = false → ∀ k, k < cn → WS (dD S) (f k) (bc (f k))) → (dO S = false → ∀ k, k + 1 < cn → 1 ≤ bc (f k)) → (∀ I' A', Fr [61, 62, 63, 64, 65, 66, 67, 69, 70, 71] I I' → Fr [50, 52, 55, 56] A A' → mD (rt (t.toInt64 - 1000) bc z S f cn gn).1 I' A' → (dO (rt (t.toInt64 - 1000) bc z S f cn gn).1 = false → Fr [62, 63, 65, 66, 67, 71] I I' ∧ Fr [50, 52] A A') → mq 151 62 [some (.ref 67), some (.int (nI l)), some (.int t), some (.int (nI ((rt (t.toInt64 - 1000) bc z S f cn gn).2.2.2)))] [] (hS n u I' A' J B mk sn L xs X) Q) → mq 151 36 [some (.ref 67), some (.int (nI l)), some (.int t), some (.int (nI gn))] [] (hS n u I A J B mk sn L xs X) Q := by
  intro z
  induction z with
  | zero =>
    intro gn cn S f I A hM hcz hG hW hne kk
    by_cases ho : dO S = true
    · have h61 : I 61 = nI 1 := by
        rw [hM.1.1, ho]
        rfl
      refine x_al1 (pc := 36) rfl rfl ?_
      refine x_il1 (pc := 37) rfl rfl ?_
      refine x_il1 (pc := 38) rfl rfl ?_
      refine x_k (pc := 39) rfl rfl rfl ⟨Nat.le_of_ble_eq_true rfl, Nat.le_of_ble_eq_true rfl, Nat.le_of_ble_eq_true rfl⟩ rfl (k_152f (I := I) (A := A) h61 ?_)
      show mq 151 42 [some (.ref 67), some (.int (nI l)), some (.int t), some (.int (nI gn))] [.int (nI 0)] (hS n u I A J B mk sn L xs X) _
      refine x_ifN_eq (pc := 42) (t := 62) rfl rfl (by decide) (fun _ => ?_) (fun c => absurd c (by decide))
      exact kk I A (Fr_refl _ _) (Fr_refl _ _) hM (fun _ => ⟨Fr_refl _ _, Fr_refl _ _⟩)
    · have of := ne_true ho
      have h61 : I 61 = nI 0 := by
        rw [hM.1.1, of]
        rfl
      refine x_al1 (pc := 36) rfl rfl ?_
      refine x_il1 (pc := 37) rfl rfl ?_
      refine x_il1 (pc := 38) rfl rfl ?_
      refine x_k (pc := 39) rfl rfl rfl ⟨Nat.le_of_ble_eq_true rfl, Nat.le_of_ble_eq_true rfl, Nat.le_of_ble_eq_true rfl⟩ rfl (k_152 (I := I) (A := A) (D := dD S) (f := f) (bc := bc) (t := t) hM.2.1 hl (hG of) h61 (hW of) (fun q => hne of 0 q) (fun I1 A1 f1 g1 => ?_))
      show mq 151 42 [some (.ref 67), some (.int (nI l)), some (.int t), some (.int (nI gn))] [.int (nI (if go (dD S) f bc cn (t.toInt64 - 1000) = true then 1 else 0))] (hS n u I1 A1 J B mk sn L xs X) _
      refine x_ifN_eq (pc := 42) (t := 62) rfl rfl (by split <;> omega) (fun c42 => ?_) (fun c42 => ?_)
      · have M1 : mD S I1 A1 := mD_fr hM f1 g1 (by decide) (by decide)
        exact kk I1 A1 (Fr_cons (Fr_refl _ _) f1 (by decide)) (Fr_cons (Fr_refl _ _) g1 (by decide)) M1 (fun _ => ⟨Fr_cons (Fr_refl _ I) f1 (by decide), Fr_cons (Fr_refl _ A) g1 (by decide)⟩)
      · rw [go_0 (by have := hcz of; omega)] at c42
        exact absurd rfl c42
  | succ z ih =>
    intro gn cn S f I A hM hcz hG hW hne kk
    by_cases ho : dO S = true
    · have h61 : I 61 = nI 1 := by
        rw [hM.1.1, ho]
        rfl
      rw [rt_off ho] at kk
      refine x_al1 (pc := 36) rfl rfl ?_
      refine x_il1 (pc := 37) rfl rfl ?_
      refine x_il1 (pc := 38) rfl rfl ?_
      refine x_k (pc := 39) rfl rfl rfl ⟨Nat.le_of_ble_eq_true rfl, Nat.le_of_ble_eq_true rfl, Nat.le_of_ble_eq_true rfl⟩ rfl (k_152f (I := I) (A := A) h61 ?_)
      show mq 151 42 [some (.ref 67), some (.int (nI l)), some (.int t), some (.int (nI gn))] [.int (nI 0)] (hS n u I A J B mk sn L xs X) _
      refine x_ifN_eq (pc := 42) (t := 62) rfl rfl (by decide) (fun _ => ?_) (fun c => absurd c (by decide))
      exact kk I A (Fr_refl _ _) (Fr_refl _ _) hM (fun _ => ⟨Fr_refl _ _, Fr_refl _ _⟩)
    · have of := ne_true ho
      have h61 : I 61 = nI 0 := by
        rw [hM.1.1, of]
        rfl
      refine x_al1 (pc := 36) rfl rfl ?_
      refine x_il1 (pc := 37) rfl rfl ?_
      refine x_il1 (pc := 38) rfl rfl ?_
      refine x_k (pc := 39) rfl rfl rfl ⟨Nat.le_of_ble_eq_true rfl, Nat.le_of_ble_eq_true rfl, Nat.le_of_ble_eq_true rfl⟩ rfl (k_152 (I := I) (A := A) (D := dD S) (f := f) (bc := bc) (t := t) hM.2.1 hl (hG of) h61 (hW of) (fun q => hne of 0 q) (fun I1 A1 f1 g1 => ?_))
      show mq 151 42 [some (.ref 67), some (.int (nI l)), some (.int t), some (.int (nI gn))] [.int (nI (if go (dD S) f bc cn (t.toInt64 - 1000) = true then 1 else 0))] (hS n u I1 A1 J B mk sn L xs X) _
      refine x_ifN_eq (pc := 42) (t := 62) rfl rfl (by split <;> omega) (fun c42 => ?_) (fun c42 => ?_)
      · have M1 : mD S I1 A1 := mD_fr hM f1 g1 (by decide) (by decide)
        have hng : ¬ go (dD S) f bc cn (t.toInt64 - 1000) = true := fun q => by rw [if_pos q] at c42; exact absurd c42 (by decide)
        have ev : rt (t.toInt64 - 1000) bc (z + 1) S f cn gn = (S, f, cn, gn) := if_neg (fun q => hng q.1)
        rw [ev] at kk
        exact kk I1 A1 (Fr_cons (Fr_refl _ _) f1 (by decide)) (Fr_cons (Fr_refl _ _) g1 (by decide)) M1 (fun _ => ⟨Fr_cons (Fr_refl _ I) f1 (by decide), Fr_cons (Fr_refl _ A) g1 (by decide)⟩)
      · have hgo : go (dD S) f bc cn (t.toInt64 - 1000) = true := Decidable.byContradiction (fun q => c42 (if_neg q))
        have h1n := go_1 hgo
        have ev : rt (t.toInt64 - 1000) bc (z + 1) S f cn gn = rt (t.toInt64 - 1000) bc z (wr1 S (owW (f 0) 0)) (sh f) (cn - 1) (gn + 1) := if_pos ⟨hgo, of⟩
        rw [ev] at kk
        refine x_al1 (pc := 45) rfl rfl ?_
        refine x_al1 (pc := 46) rfl rfl ?_
        refine x_il1 (pc := 47) rfl rfl ?_
        refine x_const (pc := 48) (pc' := 49) (.int (nI 0)) rfl rfl rfl rfl ?_
        refine x_k (pc := 49) rfl rfl rfl ⟨Nat.le_of_ble_eq_true rfl, Nat.le_of_ble_eq_true rfl, Nat.le_of_ble_eq_true rfl⟩ rfl (k_119 (I := I1) (A := A1) (D := dD S) (m := 0) (by rw [g1 50 (by decide)]; exact hM.2.1) (hG of) (by omega) hl ((f1 61 (by decide)).trans h61) ?_)
        show mq 151 52 [some (.ref 67), some (.int (nI l)), some (.int t), some (.int (nI gn))] [.int (nI (f 0)), .ref 67] (hS n u I1 A1 J B mk sn L xs X) _
        refine x_const (pc := 52) (pc' := 53) (.int (nI 0)) rfl rfl rfl rfl ?_
        refine x_k (pc := 53) rfl rfl rfl ⟨Nat.le_of_ble_eq_true rfl, Nat.le_of_ble_eq_true rfl, Nat.le_of_ble_eq_true rfl⟩ rfl (k_150 (I := I1) (A := A1) (S := S) (s := f 0) (o := 0) (mD_fr hM f1 g1 (by decide) (by decide)) ((hG of).1 0 (by omega)).1 (by decide) (fun I2 A2 f2 g2 h2 x2 => ?_))
        show mq 151 56 [some (.ref 67), some (.int (nI l)), some (.int t), some (.int (nI gn))] [] (hS n u I2 A2 J B mk sn L xs X) _
        refine x_iincN (pc := 56) (c := 1) (ml' := [some (.ref 67), some (.int (nI l)), some (.int t), some (.int (nI (gn + 1)))]) rfl rfl rfl rfl ?_
        refine x_step (pc := 59) (pc' := 36) rfl rfl rfl rfl ?_
        have eD : dO (wr1 S (owW (f 0) 0)) = false → dD (wr1 S (owW (f 0) 0)) = dW (dD S) (128 * f 0 + 2) 1 (gB0 [0 / 2 ^ 0 % 256]) := fun q => (wr1_D q).2
        have F : Fr [61, 62, 63, 64, 65, 66, 67, 69, 70, 71] I I2 := (Fr_cons (Fr_cons (Fr_refl _ _) f1 (by decide)) f2 (by decide))
        have G : Fr [50, 52, 55, 56] A A2 := (Fr_cons (Fr_cons (Fr_refl _ _) g1 (by decide)) g2 (by decide))
        refine ih (gn + 1) (cn - 1) (S := wr1 S (owW (f 0) 0)) (f := sh f) (I := I2) (A := A2) h2 (fun q => by have := hcz of; omega) (fun q => ?_) (fun q k hk => ?_) (fun q k hk => ?_) (fun I4 A4 f4 g4 h4 x4 => ?_)
        · rw [eD q]
          exact SG_tl _ rfl (hG of) (by omega)
        · rw [eD q]
          exact ow_WS _ (hW of (k + 1) (by omega))
        · exact hne of (k + 1) (by omega)
        · refine kk I4 A4 (Fr_cons F f4 (by decide)) (Fr_cons G g4 (by decide)) h4 (fun q => ?_)
          have o2 : dO (wr1 S (owW (f 0) 0)) = false := ne_true (fun w => by rw [rt_off w] at q; exact Bool.noConfusion (q.symm.trans w))
          exact ⟨Fr_cons (Fr_cons (Fr_cons (Fr_refl _ I) f1 (by decide)) (x2 o2).1 (by decide)) (x4 q).1 (by decide), Fr_cons (Fr_cons (Fr_cons (Fr_refl _ A) g1 (by decide)) (x2 o2).2 (by decide)) (x4 q).2 (by decide)⟩
set_option maxRecDepth 100000 in
set_option maxHeartbeats 4000000 in
theorem k_151 {S : DS} (hM : mD S I A) (ho : dO S = false) {l cn : Nat} {f bc : Nat → Nat} {t : Int32} (hl : l < 2) (hG : SG (dD S) l f cn) (hW : ∀ k, k < cn → WS (dD S) (f k) (bc (f k))) (hne : ∀ k, k + 1 < cn → 1 ≤ bc (f k)) {Q : mO × mHp → Prop} (kk : dO (rt (t.toInt64 - 1000) bc 16 S f cn 0).1 = false → ∀ I' A', Fr [60, 62, 63, 65, 66, 67, 71] I I' → Fr [50, 52] A A' → mD (rt (t.toInt64 - 1000) bc 16 S f cn 0).1 I' A' → I' 60 = nI 0 → Q (.inl (some (.int (nI (rt (t.toInt64 - 1000) bc 16 S f cn 0).2.2.2))), hS n u I' A' J B mk sn L xs X)) (kx : dO (rt (t.toInt64 - 1000) bc 16 S f cn 0).1 = true → ∀ I' A', Fr [60, 61, 62, 63, 64, 65, 66, 67, 69, 70, 71] I I' → Fr [50, 52, 55, 56] A A' → mD (rt (t.toInt64 - 1000) bc 16 S f cn 0).1 I' A' → I' 60 = nI 1 → Q (.inl (some (.int (nI 0))), hS n u I' A' J B mk sn L xs X)) : mq 151 0 [some (.ref 67), some (.int (nI l)), some (.int t), none] [] (hS n u I A J B mk sn L xs X) Q := by
  have h61 : I 61 = nI 0 := by
    rw [hM.1.1, ho]
    rfl
  refine x_al1 (pc := 0) rfl rfl ?_
  refine x_al1 (pc := 1) rfl rfl ?_
  refine g_67_2 (pc := 2) (v := nI 0) rfl rfl h61 ?_
  refine x_ifN_eq (pc := 5) (t := 12) rfl rfl (by decide) (fun _ => ?_) (fun c => absurd c (by decide))
  refine x_il1 (pc := 12) rfl rfl ?_
  refine x_ifN_lt (pc := 13) (t := 21) rfl rfl (by omega) ?_
  refine x_il1 (pc := 16) rfl rfl ?_
  refine x_const (pc := 17) (pc' := 18) (.int (nI 1)) rfl rfl rfl rfl ?_
  refine x_cmpN_le (pc := 18) (t := 25) rfl rfl (by omega) (by omega) (fun c18 => ?_) (fun c18 => ?_)
  · refine x_const (pc := 25) (pc' := 26) (.int (nI 0)) rfl rfl rfl rfl ?_
    refine x_k (pc := 26) rfl rfl rfl ⟨Nat.le_of_ble_eq_true rfl, Nat.le_of_ble_eq_true rfl, Nat.le_of_ble_eq_true rfl⟩ rfl (k_114 (I := I) (A := A) (w := 0) (by decide) ?_)
    show mq 151 29 [some (.ref 67), some (.int (nI l)), some (.int t), none] [.int (nI 0)] (hS n u (va_up I 60 (nI 0)) A J B mk sn L xs X) _
    refine x_ifN_eq (pc := 29) (t := 34) rfl rfl (by decide) (fun _ => ?_) (fun c => absurd c (by decide))
    refine x_const (pc := 34) (pc' := 35) (.int (nI 0)) rfl rfl rfl rfl ?_
    refine x_is1 (pc := 35) (ml' := [some (.ref 67), some (.int (nI l)), some (.int t), some (.int (nI 0))]) rfl rfl ?_
    refine l_151 (I := va_up I 60 (nI 0)) (A := A) (bc := bc) (t := t) (by omega) 16 0 cn (mD_on hM ho (Fr_up I 60 _) (Fr_refl [] A) (by decide) (by decide)) (fun _ => by have := SG_le hG; omega) (fun _ => hG) (fun _ => hW) (fun _ => hne) (fun I2 A2 f2 g2 h2 x2 => ?_)
    by_cases o2 : dO (rt (t.toInt64 - 1000) bc 16 S f cn 0).1 = true
    · have h661 : I2 61 = nI 1 := by
        rw [h2.1.1, o2]
        rfl
      refine x_al1 (pc := 62) rfl rfl ?_
      refine x_al1 (pc := 63) rfl rfl ?_
      refine g_67_2 (pc := 64) (v := nI 1) rfl rfl h661 ?_
      refine x_ifN_eq (pc := 67) (t := 74) rfl rfl (by decide) (fun c => absurd c (by decide)) (fun _ => ?_)
      refine x_const (pc := 70) (pc' := 71) (.int (nI 1)) rfl rfl rfl rfl ?_
      refine x_step (pc := 71) (pc' := 75) rfl rfl rfl rfl ?_
      refine x_k (pc := 75) rfl rfl rfl ⟨Nat.le_of_ble_eq_true rfl, Nat.le_of_ble_eq_true rfl, Nat.le_of_ble_eq_true rfl⟩ rfl (k_114 (I := I2) (A := A2) (w := 1) (by decide) ?_)
      show mq 151 78 [some (.ref 67), some (.int (nI l)), some (.int t), some (.int (nI ((rt (t.toInt64 - 1000) bc 16 S f cn 0).2.2.2)))] [.int (nI 1)] (hS n u (va_up I2 60 (nI 1)) A2 J B mk sn L xs X) _
      refine x_ifN_eq (pc := 78) (t := 85) rfl rfl (by decide) (fun c => absurd c (by decide)) (fun _ => ?_)
      refine x_const (pc := 81) (pc' := 82) (.int (nI 0)) rfl rfl rfl rfl ?_
      refine x_step (pc := 82) (pc' := 86) rfl rfl rfl rfl ?_
      refine x_ret (pc := 86) rfl rfl ?_
      exact kx o2 _ _ (Fr_u (Fr_cons (Fr_u (Fr_refl _ _) (by decide)) f2 (by decide)) (by decide)) (Fr_cons (Fr_refl _ _) g2 (by decide)) (mD_off h2 (Fr_up I2 60 _) (by decide)) rfl
    · have o2f := ne_true o2
      have h661 : I2 61 = nI 0 := by
        rw [h2.1.1, o2f]
        rfl
      refine x_al1 (pc := 62) rfl rfl ?_
      refine x_al1 (pc := 63) rfl rfl ?_
      refine g_67_2 (pc := 64) (v := nI 0) rfl rfl h661 ?_
      refine x_ifN_eq (pc := 67) (t := 74) rfl rfl (by decide) (fun _ => ?_) (fun c => absurd c (by decide))
      refine x_const (pc := 74) (pc' := 75) (.int (nI 0)) rfl rfl rfl rfl ?_
      refine x_k (pc := 75) rfl rfl rfl ⟨Nat.le_of_ble_eq_true rfl, Nat.le_of_ble_eq_true rfl, Nat.le_of_ble_eq_true rfl⟩ rfl (k_114 (I := I2) (A := A2) (w := 0) (by decide) ?_)
      show mq 151 78 [some (.ref 67), some (.int (nI l)), some (.int t), some (.int (nI ((rt (t.toInt64 - 1000) bc 16 S f cn 0).2.2.2)))] [.int (nI 0)] (hS n u (va_up I2 60 (nI 0)) A2 J B mk sn L xs X) _
      refine x_ifN_eq (pc := 78) (t := 85) rfl rfl (by decide) (fun _ => ?_) (fun c => absurd c (by decide))
      refine x_il1 (pc := 85) rfl rfl ?_
      refine x_ret (pc := 86) rfl rfl ?_
      exact kk o2f _ _ (Fr_u (Fr_cons (Fr_u (Fr_refl _ I) (by decide)) (x2 o2f).1 (by decide)) (by decide)) (Fr_cons (Fr_refl _ A) (x2 o2f).2 (by decide)) (mD_off h2 (Fr_up I2 60 _) (by decide)) rfl
  · omega
end S62
