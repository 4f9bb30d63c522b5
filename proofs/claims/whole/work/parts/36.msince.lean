/-! The model: since. -/
section S36
variable {n u : Nat} {I : Nat → Int32} {A : Nat → Nat → Int32} {J : Int64} {B : Nat → Int64} {mk sn L : Nat} {xs : Nat → Int32} {X : Nat → mC} {D : Nat → Nat} 
set_option maxRecDepth 100000 in
set_option maxHeartbeats 4000000 in
theorem l_142r {l i s b q m : Nat} {t : Int32} (hm : m ≤ 4) (h65 : I 65 = nI m) (hr : GBn A D b q m) {Q : mO × mHp → Prop} : ∀ (z k : Nat), k + z = m → (∀ v, sR D b q t z k = some v → Q (.inl (some (.int v)), hS n u I A J B mk sn L xs X)) → (sR D b q t z k = none → mq 142 121 [some (.ref 67), some (.int (nI l)), some (.int t), some (.int (nI i)), some (.int (nI s)), some (.int (nI m))] [] (hS n u I A J B mk sn L xs X) Q) → mq 142 85 [some (.ref 67), some (.int (nI l)), some (.int t), some (.int (nI i)), some (.int (nI s)), some (.int (nI k))] [] (hS n u I A J B mk sn L xs X) Q := by
  intro z
  induction z with
  | zero =>
    intro k hz k1 k2
    refine x_il2 (pc := 85) rfl rfl ?_
    refine x_al1 (pc := 87) rfl rfl ?_
    refine g_67_9 (pc := 88) (v := nI m) rfl rfl h65 ?_
    refine x_cmpN_ge (pc := 91) (t := 121) rfl rfl (by omega) (by omega) (fun c91 => ?_) (fun c91 => ?_)
    · have hk : k = m := by omega
      subst hk
      exact k2 rfl
    · omega
  | succ z ih =>
    intro k hz k1 k2
    refine x_il2 (pc := 85) rfl rfl ?_
    refine x_al1 (pc := 87) rfl rfl ?_
    refine g_67_9 (pc := 88) (v := nI m) rfl rfl h65 ?_
    refine x_cmpN_ge (pc := 91) (t := 121) rfl rfl (by omega) (by omega) (fun c91 => ?_) (fun c91 => ?_)
    · omega
    · refine x_al1 (pc := 94) rfl rfl ?_
      refine g_67_7 (pc := 95) rfl rfl ?_
      refine x_const (pc := 98) (pc' := 99) (.int (nI 4)) rfl rfl rfl rfl ?_
      refine x_il2 (pc := 99) rfl rfl ?_
      refine x_iaddN (pc := 101) (c := 4 + k) rfl rfl ?_
      refine al_70 (pc := 102) (q := 4 + k) (v := tR D q k) rfl rfl (by omega) ((hr k (by omega)).2.1) ?_
      refine x_il1 (pc := 103) rfl rfl ?_
      refine x_cmp_lt (pc := 104) (t := 115) rfl rfl rfl (fun c104 => ?_) (fun c104 => ?_)
      · refine x_iincN (pc := 115) (c := 1) (ml' := [some (.ref 67), some (.int (nI l)), some (.int t), some (.int (nI i)), some (.int (nI s)), some (.int (nI (k + 1)))]) rfl rfl rfl rfl ?_
        refine x_step (pc := 118) (pc' := 85) rfl rfl rfl rfl ?_
        have e : sR D b q t (z + 1) k = sR D b q t z (k + 1) := if_pos c104
        rw [e] at k1 k2
        exact ih (k + 1) (by omega) k1 k2
      · refine x_al1 (pc := 107) rfl rfl ?_
        refine g_67_7 (pc := 108) rfl rfl ?_
        refine x_il2 (pc := 111) rfl rfl ?_
        refine al_70 (pc := 113) (q := k) (v := oR D b q k) rfl rfl (by omega) ((hr k (by omega)).1) ?_
        refine x_ret (pc := 114) rfl rfl ?_
        exact k1 _ (by unfold sR; rw [if_neg c104])
set_option maxRecDepth 100000 in
set_option maxHeartbeats 4000000 in
theorem l_142b {l i s c : Nat} {t : Int32} (hs : s < 16) (hW : WS D s c) {Q : mO × mHp → Prop} : ∀ (z j : Nat) (w5 : Option Value) {I : Nat → Int32} {A : Nat → Nat → Int32}, DK (A 50) D → j + z = c → I 71 = nI (sb D s j) → (∀ v, sB D s t z j = some v → ∀ I' A', Fr [65, 66, 67, 71] I I' → Fr [52] A A' → Q (.inl (some (.int v)), hS n u I' A' J B mk sn L xs X)) → (sB D s t z j = none → ∀ I' A' w5', Fr [65, 66, 67, 71] I I' → Fr [52] A A' → mq 142 124 [some (.ref 67), some (.int (nI l)), some (.int t), some (.int (nI i)), some (.int (nI s)), w5'] [] (hS n u I' A' J B mk sn L xs X) Q) → mq 142 63 [some (.ref 67), some (.int (nI l)), some (.int t), some (.int (nI i)), some (.int (nI s)), w5] [] (hS n u I A J B mk sn L xs X) Q := by
  intro z
  induction z with
  | zero =>
    intro j w5 I A h hz h71 k1 k2
    have q1 := WS_128 hW
    have hj : j = c := by omega
    have hjc : sb D s j = 128 * s + mB D s := by rw [hj]; exact WS_end hW
    refine x_al1 (pc := 63) rfl rfl ?_
    refine g_67_19 (pc := 64) (v := nI (sb D s j)) rfl rfl h71 ?_
    refine x_al1 (pc := 67) rfl rfl ?_
    refine x_il2 (pc := 68) rfl rfl ?_
    refine x_k (pc := 70) rfl rfl rfl ⟨Nat.le_of_ble_eq_true rfl, Nat.le_of_ble_eq_true rfl, Nat.le_of_ble_eq_true rfl⟩ rfl (k_122 h hs ?_)
    show mq 142 73 [some (.ref 67), some (.int (nI l)), some (.int t), some (.int (nI i)), some (.int (nI s)), w5] [.int (nI (128 * s + mB D s)), .int (nI (sb D s j))] (hS n u I A J B mk sn L xs X) _
    refine x_cmpN_ge (pc := 73) (t := 124) rfl rfl (by omega) (by omega) (fun c73 => ?_) (fun c73 => ?_)
    · exact k2 rfl I A w5 (Fr_refl _ _) (Fr_refl _ _)
    · omega
  | succ z ih =>
    intro j w5 I A h hz h71 k1 k2
    have q1 := WS_128 hW
    have hj : j < c := by omega
    have q2 := WS_in hW hj
    refine x_al1 (pc := 63) rfl rfl ?_
    refine g_67_19 (pc := 64) (v := nI (sb D s j)) rfl rfl h71 ?_
    refine x_al1 (pc := 67) rfl rfl ?_
    refine x_il2 (pc := 68) rfl rfl ?_
    refine x_k (pc := 70) rfl rfl rfl ⟨Nat.le_of_ble_eq_true rfl, Nat.le_of_ble_eq_true rfl, Nat.le_of_ble_eq_true rfl⟩ rfl (k_122 h hs ?_)
    show mq 142 73 [some (.ref 67), some (.int (nI l)), some (.int t), some (.int (nI i)), some (.int (nI s)), w5] [.int (nI (128 * s + mB D s)), .int (nI (sb D s j))] (hS n u I A J B mk sn L xs X) _
    refine x_cmpN_ge (pc := 73) (t := 124) rfl rfl (by omega) (by omega) (fun c73 => ?_) (fun c73 => ?_)
    · omega
    · refine x_al1 (pc := 76) rfl rfl ?_
      refine x_il2 (pc := 77) rfl rfl ?_
      refine x_k (pc := 79) rfl rfl rfl ⟨Nat.le_of_ble_eq_true rfl, Nat.le_of_ble_eq_true rfl, Nat.le_of_ble_eq_true rfl⟩ rfl (k_124 (I := I) (A := A) (k := s) (q := sb D s j) h hs h71 (WS_b hW hj).2.1 (WS_b hW hj).2.2.1 (by rw [WS_rq hW hj]; omega) (fun I1 A1 f1 g1 e1 hg => ?_))
      show mq 142 82 [some (.ref 67), some (.int (nI l)), some (.int t), some (.int (nI i)), some (.int (nI s)), w5] [] (hS n u I1 A1 J B mk sn L xs X) _
      refine x_const (pc := 82) (pc' := 83) (.int (nI 0)) rfl rfl rfl rfl ?_
      refine x_is2 (pc := 83) (ml' := [some (.ref 67), some (.int (nI l)), some (.int t), some (.int (nI i)), some (.int (nI s)), some (.int (nI 0))]) rfl rfl ?_
      refine l_142r (A := A1) (b := bB D s) (q := sb D s j) (m := bN D (sb D s j)) (WS_b hW hj).2.1 hg.2.2.1 hg.2.2.2 (bN D (sb D s j)) 0 (Nat.zero_add _) (fun v hv => ?_) (fun hv => ?_)
      · have e : sB D s t (z + 1) j = some v := by unfold sB; rw [hv]
        exact k1 v e I1 A1 f1 g1
      · have ev : sB D s t (z + 1) j = sB D s t z (j + 1) := by
          conv => lhs; unfold sB
          rw [hv]
        rw [ev] at k1 k2
        refine x_step (pc := 121) (pc' := 63) rfl rfl rfl rfl ?_
        exact ih (j + 1) _ (I := I1) (A := A1) (by rw [g1 50 (by decide)]; exact h) (by omega) (e1.trans (congrArg nI (WS_rq hW hj))) (fun v hv I2 A2 f2 g2 => k1 v hv I2 A2 (Fr_cons f1 f2 (by decide)) (Fr_cons g1 g2 (by decide))) (fun hv I2 A2 w f2 g2 => k2 hv I2 A2 w (Fr_cons f1 f2 (by decide)) (Fr_cons g1 g2 (by decide)))
set_option maxRecDepth 100000 in
set_option maxHeartbeats 4000000 in
theorem l_142 {l n' : Nat} {f bc : Nat → Nat} {t : Int32} (hl : l < 4) (hG : SG D l f n') (hW : ∀ k, k < n' → WS D (f k) (bc (f k))) {Q : mO × mHp → Prop} : ∀ (z i : Nat) (w4 w5 : Option Value) {I : Nat → Int32} {A : Nat → Nat → Int32}, (DK (A 50) D) → (i + z = n') → (I 61 = nI 0) → (∀ I' A', Fr [65, 66, 67, 71] I I' → Fr [52] A A' → Q (.inl (some (.int ((sL D f bc t z i).getD (-1)))), hS n u I' A' J B mk sn L xs X)) → mq 142 36 [some (.ref 67), some (.int (nI l)), some (.int t), some (.int (nI i)), w4, w5] [] (hS n u I A J B mk sn L xs X) Q := by
  intro z
  induction z with
  | zero =>
    intro i w4 w5 I A h hz h61 kk
    have q16 := SG_le hG
    refine x_il1 (pc := 36) rfl rfl ?_
    refine x_al1 (pc := 37) rfl rfl ?_
    refine x_il1 (pc := 38) rfl rfl ?_
    refine x_k (pc := 39) rfl rfl rfl ⟨Nat.le_of_ble_eq_true rfl, Nat.le_of_ble_eq_true rfl, Nat.le_of_ble_eq_true rfl⟩ rfl (k_117 h hl h61 ?_)
    show mq 142 42 [some (.ref 67), some (.int (nI l)), some (.int t), some (.int (nI i)), w4, w5] [.int (nI (cS (ow D l) 16)), .int (nI i)] (hS n u I A J B mk sn L xs X) _
    refine x_top (y := nI n') (congrArg nI (SG_n hG)) ?_
    refine x_cmpN_ge (pc := 42) (t := 130) rfl rfl (by omega) (by omega) (fun c42 => ?_) (fun c42 => ?_)
    · refine x_const (pc := 130) (pc' := 131) (.int (-1)) rfl rfl rfl rfl ?_
      refine x_ret (pc := 131) rfl rfl ?_
      exact kk I A (Fr_refl _ _) (Fr_refl _ _)
    · omega
  | succ z ih =>
    intro i w4 w5 I A h hz h61 kk
    have q16 := SG_le hG
    refine x_il1 (pc := 36) rfl rfl ?_
    refine x_al1 (pc := 37) rfl rfl ?_
    refine x_il1 (pc := 38) rfl rfl ?_
    refine x_k (pc := 39) rfl rfl rfl ⟨Nat.le_of_ble_eq_true rfl, Nat.le_of_ble_eq_true rfl, Nat.le_of_ble_eq_true rfl⟩ rfl (k_117 h hl h61 ?_)
    show mq 142 42 [some (.ref 67), some (.int (nI l)), some (.int t), some (.int (nI i)), w4, w5] [.int (nI (cS (ow D l) 16)), .int (nI i)] (hS n u I A J B mk sn L xs X) _
    refine x_top (y := nI n') (congrArg nI (SG_n hG)) ?_
    refine x_cmpN_ge (pc := 42) (t := 130) rfl rfl (by omega) (by omega) (fun c42 => ?_) (fun c42 => ?_)
    · omega
    · refine x_al1 (pc := 45) rfl rfl ?_
      refine x_il1 (pc := 46) rfl rfl ?_
      refine x_il1 (pc := 47) rfl rfl ?_
      refine x_k (pc := 48) rfl rfl rfl ⟨Nat.le_of_ble_eq_true rfl, Nat.le_of_ble_eq_true rfl, Nat.le_of_ble_eq_true rfl⟩ rfl (k_119 (m := i) h hG (by omega) hl h61 ?_)
      show mq 142 51 [some (.ref 67), some (.int (nI l)), some (.int t), some (.int (nI i)), w4, w5] [.int (nI (f i))] (hS n u I A J B mk sn L xs X) _
      refine x_is2 (pc := 51) (ml' := [some (.ref 67), some (.int (nI l)), some (.int t), some (.int (nI i)), some (.int (nI (f i))), w5]) rfl rfl ?_
      refine x_al1 (pc := 53) rfl rfl ?_
      refine x_al1 (pc := 54) rfl rfl ?_
      refine x_il2 (pc := 55) rfl rfl ?_
      refine x_k (pc := 57) rfl rfl rfl ⟨Nat.le_of_ble_eq_true rfl, Nat.le_of_ble_eq_true rfl, Nat.le_of_ble_eq_true rfl⟩ rfl (k_121 ?_)
      show mq 142 60 [some (.ref 67), some (.int (nI l)), some (.int t), some (.int (nI i)), some (.int (nI (f i))), w5] [.int (nI (128 * f i + 8)), .ref 67] (hS n u I A J B mk sn L xs X) _
      refine p_67_19 (pc := 60) rfl rfl ?_
      have hi : i < n' := by omega
      refine l_142b (I := va_up I 71 (nI (128 * f i + 8))) (A := A) (s := f i) (c := bc (f i)) (t := t) (hG.1 i hi).1 (hW i hi) (bc (f i)) 0 w5 h (Nat.zero_add _) rfl (fun v hv I2 A2 f2 g2 => ?_) (fun hv I2 A2 w f2 g2 => ?_)
      · have e : sL D f bc t (z + 1) i = some v := by unfold sL; rw [hv]
        rw [e] at kk
        exact kk I2 A2 (Fr_cons (Fr_u (Fr_refl _ _) (by decide)) f2 (by decide)) g2
      · have ev : sL D f bc t (z + 1) i = sL D f bc t z (i + 1) := by
          conv => lhs; unfold sL
          rw [hv]
        rw [ev] at kk
        refine x_iincN (pc := 124) (c := 1) (ml' := [some (.ref 67), some (.int (nI l)), some (.int t), some (.int (nI (i + 1))), some (.int (nI (f i))), w]) rfl rfl rfl rfl ?_
        refine x_step (pc := 127) (pc' := 36) rfl rfl rfl rfl ?_
        exact ih (i + 1) _ _ (I := I2) (A := A2) (by rw [g2 50 (by decide)]; exact h) (by omega) ((f2 61 (by decide)).trans h61) (fun I3 A3 f3 g3 => kk I3 A3 (Fr_cons (Fr_cons (Fr_u (Fr_refl _ _) (by decide)) f2 (by decide)) f3 (by decide)) (Fr_cons g2 g3 (by decide)))
set_option maxRecDepth 100000 in
set_option maxHeartbeats 4000000 in
theorem k_142 (h : DK (A 50) D) {l n' : Nat} {f bc : Nat → Nat} {t : Int32} (hl : l < 4) (hG : SG D l f n') (hW : ∀ k, k < n' → WS D (f k) (bc (f k))) (h61 : I 61 = nI 0) {Q : mO × mHp → Prop} (kk : ∀ I' A', Fr [60, 65, 66, 67, 71] I I' → Fr [52] A A' → I' 60 = nI 0 → Q (.inl (some (.int ((sL D f bc t n' 0).getD (-1)))), hS n u I' A' J B mk sn L xs X)) : mq 142 0 [some (.ref 67), some (.int (nI l)), some (.int t), none, none, none] [] (hS n u I A J B mk sn L xs X) Q := by
  refine x_al1 (pc := 0) rfl rfl ?_
  refine x_al1 (pc := 1) rfl rfl ?_
  refine g_67_2 (pc := 2) (v := nI 0) rfl rfl h61 ?_
  refine x_ifN_eq (pc := 5) (t := 12) rfl rfl (by decide) (fun _ => ?_) (fun c => absurd c (by decide))
  refine x_il1 (pc := 12) rfl rfl ?_
  refine x_ifN_lt (pc := 13) (t := 21) rfl rfl (by omega) ?_
  refine x_il1 (pc := 16) rfl rfl ?_
  refine x_const (pc := 17) (pc' := 18) (.int (nI 3)) rfl rfl rfl rfl ?_
  refine x_cmpN_le (pc := 18) (t := 25) rfl rfl (by omega) (by omega) (fun c18 => ?_) (fun c18 => ?_)
  · refine x_const (pc := 25) (pc' := 26) (.int (nI 0)) rfl rfl rfl rfl ?_
    refine x_k (pc := 26) rfl rfl rfl ⟨Nat.le_of_ble_eq_true rfl, Nat.le_of_ble_eq_true rfl, Nat.le_of_ble_eq_true rfl⟩ rfl (k_114 (w := 0) (by decide) ?_)
    show mq 142 29 [some (.ref 67), some (.int (nI l)), some (.int t), none, none, none] [.int (nI 0)] (hS n u (va_up I 60 (nI 0)) A J B mk sn L xs X) _
    refine x_ifN_eq (pc := 29) (t := 34) rfl rfl (by decide) (fun _ => ?_) (fun c => absurd c (by decide))
    refine x_const (pc := 34) (pc' := 35) (.int (nI 0)) rfl rfl rfl rfl ?_
    refine x_is1 (pc := 35) (ml' := [some (.ref 67), some (.int (nI l)), some (.int t), some (.int (nI 0)), none, none]) rfl rfl ?_
    exact l_142 (I := va_up I 60 (nI 0)) hl hG hW n' 0 none none h (Nat.zero_add _) h61 (fun I2 A2 f2 g2 => kk I2 A2 (Fr_cons (Fr_u (Fr_refl _ _) (by decide)) f2 (by decide)) g2 (f2 60 (by decide)))
  · omega
set_option maxRecDepth 100000 in
set_option maxHeartbeats 4000000 in
theorem k_142b {l t : Int32} (h61 : I 61 = nI 0) (hx : l < 0 ∨ nI 4 ≤ l) {Q : mO × mHp → Prop} (kk : Q (.inl (some (.int (nI 0))), hS n u (va_up I 60 (nI 2)) A J B mk sn L xs X)) : mq 142 0 [some (.ref 67), some (.int l), some (.int t), none, none, none] [] (hS n u I A J B mk sn L xs X) Q := by
  refine x_al1 (pc := 0) rfl rfl ?_
  refine x_al1 (pc := 1) rfl rfl ?_
  refine g_67_2 (pc := 2) (v := nI 0) rfl rfl h61 ?_
  refine x_ifN_eq (pc := 5) (t := 12) rfl rfl (by decide) (fun _ => ?_) (fun c => absurd c (by decide))
  refine x_il1 (pc := 12) rfl rfl ?_
  refine x_if_lt (pc := 13) (t := 21) rfl rfl rfl (fun c13 => ?_) (fun c13 => ?_)
  · refine x_const (pc := 21) (pc' := 22) (.int (nI 2)) rfl rfl rfl rfl ?_
    refine x_step (pc := 22) (pc' := 26) rfl rfl rfl rfl ?_
    refine x_k (pc := 26) rfl rfl rfl ⟨Nat.le_of_ble_eq_true rfl, Nat.le_of_ble_eq_true rfl, Nat.le_of_ble_eq_true rfl⟩ rfl (k_114 (w := 2) (by decide) ?_)
    show mq 142 29 [some (.ref 67), some (.int l), some (.int t), none, none, none] [.int (nI 1)] (hS n u (va_up I 60 (nI 2)) A J B mk sn L xs X) _
    refine x_ifN_eq (pc := 29) (t := 34) rfl rfl (by decide) (fun c => absurd c (by decide)) (fun _ => ?_)
    refine x_const (pc := 32) (pc' := 33) (.int (nI 0)) rfl rfl rfl rfl ?_
    refine x_ret (pc := 33) rfl rfl ?_
    exact kk
  · refine x_il1 (pc := 16) rfl rfl ?_
    refine x_const (pc := 17) (pc' := 18) (.int (nI 3)) rfl rfl rfl rfl ?_
    refine x_cmp_le (pc := 18) (t := 25) rfl rfl rfl (fun c18 => ?_) (fun c18 => ?_)
    · exact absurd hx (fun q => q.elim c13 (fun q => absurd (ngt_of (m := 3) (by decide) (Int32.not_lt.mpr c18)) (fun z => z q)))
    · refine x_const (pc := 21) (pc' := 22) (.int (nI 2)) rfl rfl rfl rfl ?_
      refine x_step (pc := 22) (pc' := 26) rfl rfl rfl rfl ?_
      refine x_k (pc := 26) rfl rfl rfl ⟨Nat.le_of_ble_eq_true rfl, Nat.le_of_ble_eq_true rfl, Nat.le_of_ble_eq_true rfl⟩ rfl (k_114 (w := 2) (by decide) ?_)
      show mq 142 29 [some (.ref 67), some (.int l), some (.int t), none, none, none] [.int (nI 1)] (hS n u (va_up I 60 (nI 2)) A J B mk sn L xs X) _
      refine x_ifN_eq (pc := 29) (t := 34) rfl rfl (by decide) (fun c => absurd c (by decide)) (fun _ => ?_)
      refine x_const (pc := 32) (pc' := 33) (.int (nI 0)) rfl rfl rfl rfl ?_
      refine x_ret (pc := 33) rfl rfl ?_
      exact kk
set_option maxRecDepth 100000 in
set_option maxHeartbeats 4000000 in
theorem k_142x {l t : Int32} (h61 : I 61 = nI 1) {Q : mO × mHp → Prop} (kk : Q (.inl (some (.int (nI 0))), hS n u (va_up I 60 (nI 1)) A J B mk sn L xs X)) : mq 142 0 [some (.ref 67), some (.int l), some (.int t), none, none, none] [] (hS n u I A J B mk sn L xs X) Q := by
  refine x_al1 (pc := 0) rfl rfl ?_
  refine x_al1 (pc := 1) rfl rfl ?_
  refine g_67_2 (pc := 2) (v := nI 1) rfl rfl h61 ?_
  refine x_ifN_eq (pc := 5) (t := 12) rfl rfl (by decide) (fun c => absurd c (by decide)) (fun _ => ?_)
  refine x_const (pc := 8) (pc' := 9) (.int (nI 1)) rfl rfl rfl rfl ?_
  refine x_step (pc := 9) (pc' := 26) rfl rfl rfl rfl ?_
  refine x_k (pc := 26) rfl rfl rfl ⟨Nat.le_of_ble_eq_true rfl, Nat.le_of_ble_eq_true rfl, Nat.le_of_ble_eq_true rfl⟩ rfl (k_114 (w := 1) (by decide) ?_)
  show mq 142 29 [some (.ref 67), some (.int l), some (.int t), none, none, none] [.int (nI 1)] (hS n u (va_up I 60 (nI 1)) A J B mk sn L xs X) _
  refine x_ifN_eq (pc := 29) (t := 34) rfl rfl (by decide) (fun c => absurd c (by decide)) (fun _ => ?_)
  refine x_const (pc := 32) (pc' := 33) (.int (nI 0)) rfl rfl rfl rfl ?_
  refine x_ret (pc := 33) rfl rfl ?_
  exact kk
end S36
