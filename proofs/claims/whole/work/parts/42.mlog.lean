/-! Log: the model. -/
section S42
variable {n u : Nat} {I : Nat → Int32} {A : Nat → Nat → Int32} {J : Int64} {B : Nat → Int64} {mk sn L : Nat} {xs : Nat → Int32} {X : Nat → mC} {D : Nat → Nat} 
/-- how the model keeps the latest entry while it counts -/
def eC (s j e a : Nat) (x : Int32) : Prop := (j = 0 ∧ e = 8 ∧ a = 0) ∨ (48 ≤ e ∧ 0 < a ∧ x = nI (128 * s + e - 40))
set_option maxRecDepth 100000 in
set_option maxHeartbeats 4000000 in
theorem l_157 {s c : Nat} (hs : s < 16) (hW : WS D s c) {Q : mO × mHp → Prop} : ∀ (z j e a : Nat) (x : Int32) (w4 : Option Value) {I : Nat → Int32} {A : Nat → Nat → Int32}, (DK (A 50) D) → (j + z = c) → (I 71 = nI (sb D s j)) → (e < 1000) → (a ≤ j) → (eC s j e a x) → (∀ I' A', Fr [65, 66, 67, 71] I I' → Fr [52] A A' → Q (.inl (some (.int (nI (a + nE D s z j e)))), hS n u I' A' J B mk sn L xs X)) → mq 157 13 [some (.ref 67), some (.int (nI s)), some (.int (nI a)), some (.int x), w4] [] (hS n u I A J B mk sn L xs X) Q := by
  intro z
  induction z with
  | zero =>
    intro j e a x w4 I A h hz h71 he haj hE kk
    have q9 := WS_128 hW
    have hj : j = c := by omega
    have hjc : sb D s j = 128 * s + mB D s := by rw [hj]; exact WS_end hW
    refine x_al1 (pc := 13) rfl rfl ?_
    refine g_67_19 (pc := 14) (v := nI (sb D s j)) rfl rfl h71 ?_
    refine x_al1 (pc := 17) rfl rfl ?_
    refine x_il1 (pc := 18) rfl rfl ?_
    refine x_k (pc := 19) rfl rfl rfl ⟨Nat.le_of_ble_eq_true rfl, Nat.le_of_ble_eq_true rfl, Nat.le_of_ble_eq_true rfl⟩ rfl (k_122 (I := I) (A := A) h hs ?_)
    show mq 157 22 [some (.ref 67), some (.int (nI s)), some (.int (nI a)), some (.int x), w4] [.int (nI (128 * s + mB D s)), .int (nI (sb D s j))] (hS n u I A J B mk sn L xs X) _
    refine x_cmpN_ge (pc := 22) (t := 61) rfl rfl (by omega) (by omega) (fun c22 => ?_) (fun c22 => ?_)
    · refine x_il1 (pc := 61) rfl rfl ?_
      refine x_ret (pc := 62) rfl rfl ?_
      exact kk I A (Fr_refl _ _) (Fr_refl _ _)
    · omega
  | succ z ih =>
    intro j e a x w4 I A h hz h71 he haj hE kk
    have hj : j < c := by omega
    have q9 := WS_128 hW
    have qin := WS_in hW hj
    have qpb := pb_in hW hj
    have qp0 := pb_0 D s
    have q8 := WS_8 hW
    refine x_al1 (pc := 13) rfl rfl ?_
    refine g_67_19 (pc := 14) (v := nI (sb D s j)) rfl rfl h71 ?_
    refine x_al1 (pc := 17) rfl rfl ?_
    refine x_il1 (pc := 18) rfl rfl ?_
    refine x_k (pc := 19) rfl rfl rfl ⟨Nat.le_of_ble_eq_true rfl, Nat.le_of_ble_eq_true rfl, Nat.le_of_ble_eq_true rfl⟩ rfl (k_122 (I := I) (A := A) h hs ?_)
    show mq 157 22 [some (.ref 67), some (.int (nI s)), some (.int (nI a)), some (.int x), w4] [.int (nI (128 * s + mB D s)), .int (nI (sb D s j))] (hS n u I A J B mk sn L xs X) _
    refine x_cmpN_ge (pc := 22) (t := 61) rfl rfl (by omega) (by omega) (fun c22 => ?_) (fun c22 => ?_)
    · omega
    · refine x_al1 (pc := 25) rfl rfl ?_
      refine g_67_19 (pc := 26) (v := nI (sb D s j)) rfl rfl h71 ?_
      refine x_is2 (pc := 29) (ml' := [some (.ref 67), some (.int (nI s)), some (.int (nI a)), some (.int x), some (.int (nI (sb D s j)))]) rfl rfl ?_
      refine x_al1 (pc := 31) rfl rfl ?_
      refine x_il1 (pc := 32) rfl rfl ?_
      refine x_k (pc := 33) rfl rfl rfl ⟨Nat.le_of_ble_eq_true rfl, Nat.le_of_ble_eq_true rfl, Nat.le_of_ble_eq_true rfl⟩ rfl (k_124 (I := I) (A := A) (k := s) (q := sb D s j) h hs h71 (WS_b hW hj).2.1 (WS_b hW hj).2.2.1 (by rw [WS_rq hW hj]; omega) (fun I1 A1 f1 g1 e1 hg => ?_))
      show mq 157 36 [some (.ref 67), some (.int (nI s)), some (.int (nI a)), some (.int x), some (.int (nI (sb D s j)))] [] (hS n u I1 A1 J B mk sn L xs X) _
      refine x_il1 (pc := 36) rfl rfl ?_
      refine x_ifN_le (pc := 37) (t := 52) rfl rfl (by omega) (fun c37 => ?_) (fun c37 => ?_)
      · have hep : e ≤ pb D s j := by
          rcases hE with ⟨q1, q2, q3⟩ | ⟨q1, q2, q3⟩
          · rw [q1]; omega
          · omega
        refine x_il2 (pc := 52) rfl rfl ?_
        refine x_is1 (pc := 54) (ml' := [some (.ref 67), some (.int (nI s)), some (.int (nI a)), some (.int (nI (sb D s j))), some (.int (nI (sb D s j)))]) rfl rfl ?_
        refine x_iincN (pc := 55) (c := 1) (ml' := [some (.ref 67), some (.int (nI s)), some (.int (nI (a + 1))), some (.int (nI (sb D s j))), some (.int (nI (sb D s j)))]) rfl rfl rfl rfl ?_
        refine x_step (pc := 58) (pc' := 13) rfl rfl rfl rfl ?_
        have ev : a + nE D s (z + 1) j e = a + 1 + nE D s z (j + 1) (eN e (pb D s j)) := by
          show a + ((if e ≤ pb D s j then 1 else 0) + nE D s z (j + 1) (eN e (pb D s j))) = _
          rw [if_pos hep]
          omega
        rw [ev] at kk
        exact ih (j + 1) (eN e (pb D s j)) (a + 1) _ _ (I := I1) (A := A1) (by rw [g1 50 (by decide)]; exact h) (by omega) (e1.trans (congrArg nI (WS_rq hW hj))) (eN_lt he (pb_le hW (by omega))) (by omega) (by unfold eN; rw [if_pos hep]; exact Or.inr ⟨by omega, by omega, congrArg nI (by omega)⟩) (fun I2 A2 f2 g2 => kk I2 A2 (Fr_cons f1 f2 (by decide)) (Fr_cons g1 g2 (by decide)))
      · refine x_il2 (pc := 40) rfl rfl ?_
        refine x_il1 (pc := 42) rfl rfl ?_
        refine x_isub (pc := 43) rfl rfl ?_
        refine x_const (pc := 44) (pc' := 46) (.int (nI 40)) rfl rfl rfl rfl ?_
        refine x_cmp_ge (pc := 46) (t := 52) rfl rfl rfl (fun c46 => ?_) (fun c46 => ?_)
        · have hep : e ≤ pb D s j := by
            rcases hE with ⟨q1, q2, q3⟩ | ⟨q1, q2, q3⟩
            · omega
            · subst q3; have := (neg_gap (by omega) (by omega)).mp c46; omega
          refine x_il2 (pc := 52) rfl rfl ?_
          refine x_is1 (pc := 54) (ml' := [some (.ref 67), some (.int (nI s)), some (.int (nI a)), some (.int (nI (sb D s j))), some (.int (nI (sb D s j)))]) rfl rfl ?_
          refine x_iincN (pc := 55) (c := 1) (ml' := [some (.ref 67), some (.int (nI s)), some (.int (nI (a + 1))), some (.int (nI (sb D s j))), some (.int (nI (sb D s j)))]) rfl rfl rfl rfl ?_
          refine x_step (pc := 58) (pc' := 13) rfl rfl rfl rfl ?_
          have ev : a + nE D s (z + 1) j e = a + 1 + nE D s z (j + 1) (eN e (pb D s j)) := by
            show a + ((if e ≤ pb D s j then 1 else 0) + nE D s z (j + 1) (eN e (pb D s j))) = _
            rw [if_pos hep]
            omega
          rw [ev] at kk
          exact ih (j + 1) (eN e (pb D s j)) (a + 1) _ _ (I := I1) (A := A1) (by rw [g1 50 (by decide)]; exact h) (by omega) (e1.trans (congrArg nI (WS_rq hW hj))) (eN_lt he (pb_le hW (by omega))) (by omega) (by unfold eN; rw [if_pos hep]; exact Or.inr ⟨by omega, by omega, congrArg nI (by omega)⟩) (fun I2 A2 f2 g2 => kk I2 A2 (Fr_cons f1 f2 (by decide)) (Fr_cons g1 g2 (by decide)))
        · refine x_step (pc := 49) (pc' := 13) rfl rfl rfl rfl ?_
          have hep : ¬ e ≤ pb D s j := by
            rcases hE with ⟨q1, q2, q3⟩ | ⟨q1, q2, q3⟩
            · omega
            · subst q3; intro q; exact c46 ((neg_gap (by omega) (by omega)).mpr (by omega))
          have ev : a + nE D s (z + 1) j e = a + 0 + nE D s z (j + 1) (eN e (pb D s j)) := by
            show a + ((if e ≤ pb D s j then 1 else 0) + nE D s z (j + 1) (eN e (pb D s j))) = _
            rw [if_neg hep]
            omega
          rw [ev] at kk
          exact ih (j + 1) (eN e (pb D s j)) (a + 0) x _ (I := I1) (A := A1) (by rw [g1 50 (by decide)]; exact h) (by omega) (e1.trans (congrArg nI (WS_rq hW hj))) (eN_lt he (pb_le hW (by omega))) (by omega) (by unfold eN; rw [if_neg hep]; exact hE.elim (fun q => absurd q.2.2 (by omega)) Or.inr) (fun I2 A2 f2 g2 => kk I2 A2 (Fr_cons f1 f2 (by decide)) (Fr_cons g1 g2 (by decide)))
set_option maxRecDepth 100000 in
set_option maxHeartbeats 4000000 in
theorem k_157 (h : DK (A 50) D) {s c : Nat} (hs : s < 16) (hW : WS D s c) {Q : mO × mHp → Prop} (kk : ∀ I' A', Fr [65, 66, 67, 71] I I' → Fr [52] A A' → Q (.inl (some (.int (nI (nE D s c 0 8)))), hS n u I' A' J B mk sn L xs X)) : mq 157 0 [some (.ref 67), some (.int (nI s)), none, none, none] [] (hS n u I A J B mk sn L xs X) Q := by
  refine x_const (pc := 0) (pc' := 1) (.int (nI 0)) rfl rfl rfl rfl ?_
  refine x_is1 (pc := 1) (ml' := [some (.ref 67), some (.int (nI s)), some (.int (nI 0)), none, none]) rfl rfl ?_
  refine x_const (pc := 2) (pc' := 3) (.int (nI 0)) rfl rfl rfl rfl ?_
  refine x_is1 (pc := 3) (ml' := [some (.ref 67), some (.int (nI s)), some (.int (nI 0)), some (.int (nI 0)), none]) rfl rfl ?_
  refine x_al1 (pc := 4) rfl rfl ?_
  refine x_al1 (pc := 5) rfl rfl ?_
  refine x_il1 (pc := 6) rfl rfl ?_
  refine x_k (pc := 7) rfl rfl rfl ⟨Nat.le_of_ble_eq_true rfl, Nat.le_of_ble_eq_true rfl, Nat.le_of_ble_eq_true rfl⟩ rfl (k_121 (I := I) (A := A) ?_)
  show mq 157 10 [some (.ref 67), some (.int (nI s)), some (.int (nI 0)), some (.int (nI 0)), none] [.int (nI (128 * s + 8)), .ref 67] (hS n u I A J B mk sn L xs X) _
  refine p_67_19 (pc := 10) rfl rfl ?_
  rw [← Nat.zero_add (nE D s c 0 8)] at kk
  exact l_157 (I := va_up I 71 (nI (128 * s + 8))) hs hW c 0 8 0 _ none h (Nat.zero_add _) rfl (by decide) (Nat.le_refl 0) (Or.inl ⟨rfl, rfl, rfl⟩) (fun I2 A2 f2 g2 => kk I2 A2 (Fr_cons (Fr_u (Fr_refl _ _) (by decide)) f2 (by decide)) g2)
set_option maxRecDepth 100000 in
set_option maxHeartbeats 4000000 in
theorem l_156_3 {l n' : Nat} {f bc : Nat → Nat} (hl : l < 4) (hG : SG D l f n') (hW : ∀ k, k < n' → WS D (f k) (bc (f k))) {Q : mO × mHp → Prop} : ∀ (z a k : Nat) {I : Nat → Int32} {A : Nat → Nat → Int32}, (DK (A 50) D) → (k + z = n') → (I 61 = nI 0) → (∀ I' A', Fr [65, 66, 67, 71] I I' → Fr [52] A A' → Q (.inl (some (.int (nI (a + mkS D f z k)))), hS n u I' A' J B mk sn L xs X)) → mq 156 91 [some (.ref 67), some (.int (nI l)), some (.int (nI 3)), some (.int (nI n')), some (.int (nI a)), some (.int (nI k))] [] (hS n u I A J B mk sn L xs X) Q := by
  intro z
  induction z with
  | zero =>
    intro a k I A h hz h61 kk
    have q16 := SG_le hG
    refine x_il2 (pc := 91) rfl rfl ?_
    refine x_il1 (pc := 93) rfl rfl ?_
    refine x_cmpN_ge (pc := 94) (t := 138) rfl rfl (by omega) (by omega) (fun c94 => ?_) (fun c94 => ?_)
    · refine x_il2 (pc := 138) rfl rfl ?_
      refine x_ret (pc := 140) rfl rfl ?_
      exact kk I A (Fr_refl _ _) (Fr_refl _ _)
    · omega
  | succ z ih =>
    intro a k I A h hz h61 kk
    have q16 := SG_le hG
    have hk : k < n' := by omega
    refine x_il2 (pc := 91) rfl rfl ?_
    refine x_il1 (pc := 93) rfl rfl ?_
    refine x_cmpN_ge (pc := 94) (t := 138) rfl rfl (by omega) (by omega) (fun c94 => ?_) (fun c94 => ?_)
    · omega
    · refine x_il2 (pc := 97) rfl rfl ?_
      refine x_il1 (pc := 99) rfl rfl ?_
      refine x_const (pc := 100) (pc' := 101) (.int (nI 3)) rfl rfl rfl rfl ?_
      refine x_cmpN_ne (pc := 101) (t := 118) rfl rfl (by decide) (by decide) (fun c => absurd c (by decide)) (fun _ => ?_)
      refine x_al1 (pc := 104) rfl rfl ?_
      refine x_al1 (pc := 105) rfl rfl ?_
      refine x_il1 (pc := 106) rfl rfl ?_
      refine x_il2 (pc := 107) rfl rfl ?_
      refine x_k (pc := 109) rfl rfl rfl ⟨Nat.le_of_ble_eq_true rfl, Nat.le_of_ble_eq_true rfl, Nat.le_of_ble_eq_true rfl⟩ rfl (k_119 (I := I) (A := A) (m := k) h hG (by omega) hl h61 ?_)
      show mq 156 112 [some (.ref 67), some (.int (nI l)), some (.int (nI 3)), some (.int (nI n')), some (.int (nI a)), some (.int (nI k))] [.int (nI (f k)), .ref 67, .int (nI a)] (hS n u I A J B mk sn L xs X) _
      refine x_k (pc := 112) rfl rfl rfl ⟨Nat.le_of_ble_eq_true rfl, Nat.le_of_ble_eq_true rfl, Nat.le_of_ble_eq_true rfl⟩ rfl (mq_k (c_123 h (hG.1 k hk).1) ?_)
      show mq 156 115 [some (.ref 67), some (.int (nI l)), some (.int (nI 3)), some (.int (nI n')), some (.int (nI a)), some (.int (nI k))] [.int (nI (mB D (f k))), .int (nI a)] (hS n u I A J B mk sn L xs X) _
      refine x_step (pc := 115) (pc' := 129) rfl rfl rfl rfl ?_
      refine x_iaddN (pc := 129) (c := a + (mB D (f k))) rfl rfl ?_
      refine x_is2 (pc := 130) (ml' := [some (.ref 67), some (.int (nI l)), some (.int (nI 3)), some (.int (nI n')), some (.int (nI (a + (mB D (f k))))), some (.int (nI k))]) rfl rfl ?_
      refine x_iincN (pc := 132) (c := 1) (ml' := [some (.ref 67), some (.int (nI l)), some (.int (nI 3)), some (.int (nI n')), some (.int (nI (a + (mB D (f k))))), some (.int (nI (k + 1)))]) rfl rfl rfl rfl ?_
      refine x_step (pc := 135) (pc' := 91) rfl rfl rfl rfl ?_
      have ev : a + mkS D f (z + 1) k = a + mB D (f k) + mkS D f z (k + 1) := by
        show a + (mB D (f k) + mkS D f z (k + 1)) = _
        omega
      rw [ev] at kk
      exact ih (a + mB D (f k)) (k + 1) (I := I) (A := A) h (by omega) h61 kk
set_option maxRecDepth 100000 in
set_option maxHeartbeats 4000000 in
theorem l_156_4 {l n' : Nat} {f bc : Nat → Nat} (hl : l < 4) (hG : SG D l f n') (hW : ∀ k, k < n' → WS D (f k) (bc (f k))) {Q : mO × mHp → Prop} : ∀ (z a k : Nat) {I : Nat → Int32} {A : Nat → Nat → Int32}, (DK (A 50) D) → (k + z = n') → (I 61 = nI 0) → (∀ I' A', Fr [65, 66, 67, 71] I I' → Fr [52] A A' → Q (.inl (some (.int (nI (a + nL D f bc z k)))), hS n u I' A' J B mk sn L xs X)) → mq 156 91 [some (.ref 67), some (.int (nI l)), some (.int (nI 4)), some (.int (nI n')), some (.int (nI a)), some (.int (nI k))] [] (hS n u I A J B mk sn L xs X) Q := by
  intro z
  induction z with
  | zero =>
    intro a k I A h hz h61 kk
    have q16 := SG_le hG
    refine x_il2 (pc := 91) rfl rfl ?_
    refine x_il1 (pc := 93) rfl rfl ?_
    refine x_cmpN_ge (pc := 94) (t := 138) rfl rfl (by omega) (by omega) (fun c94 => ?_) (fun c94 => ?_)
    · refine x_il2 (pc := 138) rfl rfl ?_
      refine x_ret (pc := 140) rfl rfl ?_
      exact kk I A (Fr_refl _ _) (Fr_refl _ _)
    · omega
  | succ z ih =>
    intro a k I A h hz h61 kk
    have q16 := SG_le hG
    have hk : k < n' := by omega
    refine x_il2 (pc := 91) rfl rfl ?_
    refine x_il1 (pc := 93) rfl rfl ?_
    refine x_cmpN_ge (pc := 94) (t := 138) rfl rfl (by omega) (by omega) (fun c94 => ?_) (fun c94 => ?_)
    · omega
    · refine x_il2 (pc := 97) rfl rfl ?_
      refine x_il1 (pc := 99) rfl rfl ?_
      refine x_const (pc := 100) (pc' := 101) (.int (nI 3)) rfl rfl rfl rfl ?_
      refine x_cmpN_ne (pc := 101) (t := 118) rfl rfl (by decide) (by decide) (fun _ => ?_) (fun c => absurd c (by decide))
      refine x_al1 (pc := 118) rfl rfl ?_
      refine x_al1 (pc := 119) rfl rfl ?_
      refine x_il1 (pc := 120) rfl rfl ?_
      refine x_il2 (pc := 121) rfl rfl ?_
      refine x_k (pc := 123) rfl rfl rfl ⟨Nat.le_of_ble_eq_true rfl, Nat.le_of_ble_eq_true rfl, Nat.le_of_ble_eq_true rfl⟩ rfl (k_119 (I := I) (A := A) (m := k) h hG (by omega) hl h61 ?_)
      show mq 156 126 [some (.ref 67), some (.int (nI l)), some (.int (nI 4)), some (.int (nI n')), some (.int (nI a)), some (.int (nI k))] [.int (nI (f k)), .ref 67, .int (nI a)] (hS n u I A J B mk sn L xs X) _
      refine x_k (pc := 126) rfl rfl rfl ⟨Nat.le_of_ble_eq_true rfl, Nat.le_of_ble_eq_true rfl, Nat.le_of_ble_eq_true rfl⟩ rfl (k_157 (I := I) (A := A) h (hG.1 k hk).1 (hW k hk) (fun I1 A1 f1 g1 => ?_))
      show mq 156 129 [some (.ref 67), some (.int (nI l)), some (.int (nI 4)), some (.int (nI n')), some (.int (nI a)), some (.int (nI k))] [.int (nI (nE D (f k) (bc (f k)) 0 8)), .int (nI a)] (hS n u I1 A1 J B mk sn L xs X) _
      refine x_iaddN (pc := 129) (c := a + (nE D (f k) (bc (f k)) 0 8)) rfl rfl ?_
      refine x_is2 (pc := 130) (ml' := [some (.ref 67), some (.int (nI l)), some (.int (nI 4)), some (.int (nI n')), some (.int (nI (a + (nE D (f k) (bc (f k)) 0 8)))), some (.int (nI k))]) rfl rfl ?_
      refine x_iincN (pc := 132) (c := 1) (ml' := [some (.ref 67), some (.int (nI l)), some (.int (nI 4)), some (.int (nI n')), some (.int (nI (a + (nE D (f k) (bc (f k)) 0 8)))), some (.int (nI (k + 1)))]) rfl rfl rfl rfl ?_
      refine x_step (pc := 135) (pc' := 91) rfl rfl rfl rfl ?_
      have ev : a + nL D f bc (z + 1) k = a + nE D (f k) (bc (f k)) 0 8 + nL D f bc z (k + 1) := by
        show a + (nE D (f k) (bc (f k)) 0 8 + nL D f bc z (k + 1)) = _
        omega
      rw [ev] at kk
      exact ih (a + nE D (f k) (bc (f k)) 0 8) (k + 1) (I := I1) (A := A1) (by rw [g1 50 (by decide)]; exact h) (by omega) ((f1 61 (by decide)).trans h61) (fun I2 A2 f2 g2 => kk I2 A2 (Fr_cons (Fr_cons (Fr_refl _ _) f1 (by decide)) f2 (by decide)) (Fr_cons (Fr_cons (Fr_refl _ _) g1 (by decide)) g2 (by decide)))
set_option maxRecDepth 100000 in
set_option maxHeartbeats 4000000 in
theorem k_156 (h : DK (A 50) D) {l n' : Nat} {f bc : Nat → Nat} (hl : l < 4) (hG : SG D l f n') (hW : ∀ k, k < n' → WS D (f k) (bc (f k))) (h61 : I 61 = nI 0) {w : Int32} {Q : mO × mHp → Prop} (kk : ∀ I' A', Fr [60, 65, 66, 67, 71] I I' → Fr [52] A A' → I' 60 = nI 0 → Q (.inl (some (.int (lgv D f bc (stO D f l n') (nxO D f bc n') n' w))), hS n u I' A' J B mk sn L xs X)) : mq 156 0 [some (.ref 67), some (.int (nI l)), some (.int w), none, none, none] [] (hS n u I A J B mk sn L xs X) Q := by
  have q16 := SG_le hG
  rcases pk_ix w (n := 6) (by decide) with c | c | ⟨j, c, e⟩
  · have hx : w < 0 ∨ nI 6 ≤ w := Or.inl c
    have ev : lgv D f bc (stO D f l n') (nxO D f bc n') n' w = -1 := lkv_b hx
    rw [ev] at kk
    refine x_al1 (pc := 0) rfl rfl ?_
    refine x_const (pc := 1) (pc' := 2) (.int (nI 0)) rfl rfl rfl rfl ?_
    refine p_67_0 (pc := 2) rfl rfl ?_
    refine x_il1 (pc := 5) rfl rfl ?_
    refine x_ifN_lt (pc := 6) (t := 23) rfl rfl (by omega) ?_
    refine x_il1 (pc := 9) rfl rfl ?_
    refine x_const (pc := 10) (pc' := 11) (.int (nI 3)) rfl rfl rfl rfl ?_
    refine x_cmpN_gt (pc := 11) (t := 23) rfl rfl (by omega) (by omega) (fun c11 => ?_) (fun c11 => ?_)
    · omega
    · refine x_il1 (pc := 14) rfl rfl ?_
      refine x_if_lt (pc := 15) (t := 23) rfl rfl rfl (fun c15 => ?_) (fun c15 => ?_)
      · refine x_const (pc := 23) (pc' := 24) (.int (-1)) rfl rfl rfl rfl ?_
        refine x_ret (pc := 24) rfl rfl ?_
        exact kk _ _ (Fr_u (Fr_refl _ _) (by decide)) (Fr_refl _ _) rfl
      · refine x_il1 (pc := 18) rfl rfl ?_
        refine x_const (pc := 19) (pc' := 20) (.int (nI 5)) rfl rfl rfl rfl ?_
        refine x_cmp_le (pc := 20) (t := 25) rfl rfl rfl (fun c20 => ?_) (fun c20 => ?_)
        · exact absurd hx (fun q => q.elim c15 (fun q => absurd (ngt_of (m := 5) (by decide) (Int32.not_lt.mpr c20)) (fun z => z q)))
        · refine x_const (pc := 23) (pc' := 24) (.int (-1)) rfl rfl rfl rfl ?_
          refine x_ret (pc := 24) rfl rfl ?_
          exact kk _ _ (Fr_u (Fr_refl _ _) (by decide)) (Fr_refl _ _) rfl
  · have hx : w < 0 ∨ nI 6 ≤ w := Or.inr c
    have ev : lgv D f bc (stO D f l n') (nxO D f bc n') n' w = -1 := lkv_b hx
    rw [ev] at kk
    refine x_al1 (pc := 0) rfl rfl ?_
    refine x_const (pc := 1) (pc' := 2) (.int (nI 0)) rfl rfl rfl rfl ?_
    refine p_67_0 (pc := 2) rfl rfl ?_
    refine x_il1 (pc := 5) rfl rfl ?_
    refine x_ifN_lt (pc := 6) (t := 23) rfl rfl (by omega) ?_
    refine x_il1 (pc := 9) rfl rfl ?_
    refine x_const (pc := 10) (pc' := 11) (.int (nI 3)) rfl rfl rfl rfl ?_
    refine x_cmpN_gt (pc := 11) (t := 23) rfl rfl (by omega) (by omega) (fun c11 => ?_) (fun c11 => ?_)
    · omega
    · refine x_il1 (pc := 14) rfl rfl ?_
      refine x_if_lt (pc := 15) (t := 23) rfl rfl rfl (fun c15 => ?_) (fun c15 => ?_)
      · refine x_const (pc := 23) (pc' := 24) (.int (-1)) rfl rfl rfl rfl ?_
        refine x_ret (pc := 24) rfl rfl ?_
        exact kk _ _ (Fr_u (Fr_refl _ _) (by decide)) (Fr_refl _ _) rfl
      · refine x_il1 (pc := 18) rfl rfl ?_
        refine x_const (pc := 19) (pc' := 20) (.int (nI 5)) rfl rfl rfl rfl ?_
        refine x_cmp_le (pc := 20) (t := 25) rfl rfl rfl (fun c20 => ?_) (fun c20 => ?_)
        · exact absurd hx (fun q => q.elim c15 (fun q => absurd (ngt_of (m := 5) (by decide) (Int32.not_lt.mpr c20)) (fun z => z q)))
        · refine x_const (pc := 23) (pc' := 24) (.int (-1)) rfl rfl rfl rfl ?_
          refine x_ret (pc := 24) rfl rfl ?_
          exact kk _ _ (Fr_u (Fr_refl _ _) (by decide)) (Fr_refl _ _) rfl
  · match j, c, e with
    | 0, _, e =>
      subst e
      refine x_al1 (pc := 0) rfl rfl ?_
      refine x_const (pc := 1) (pc' := 2) (.int (nI 0)) rfl rfl rfl rfl ?_
      refine p_67_0 (pc := 2) rfl rfl ?_
      refine x_il1 (pc := 5) rfl rfl ?_
      refine x_ifN_lt (pc := 6) (t := 23) rfl rfl (by omega) ?_
      refine x_il1 (pc := 9) rfl rfl ?_
      refine x_const (pc := 10) (pc' := 11) (.int (nI 3)) rfl rfl rfl rfl ?_
      refine x_cmpN_gt (pc := 11) (t := 23) rfl rfl (by omega) (by omega) (fun c11 => ?_) (fun c11 => ?_)
      · omega
      · refine x_il1 (pc := 14) rfl rfl ?_
        refine x_ifN_lt (pc := 15) (t := 23) rfl rfl (by omega) ?_
        refine x_il1 (pc := 18) rfl rfl ?_
        refine x_const (pc := 19) (pc' := 20) (.int (nI 5)) rfl rfl rfl rfl ?_
        refine x_cmpN_le (pc := 20) (t := 25) rfl rfl (by decide) (by decide) (fun _ => ?_) (fun c => absurd c (by decide))
        refine x_al1 (pc := 25) rfl rfl ?_
        refine x_il1 (pc := 26) rfl rfl ?_
        refine x_k (pc := 27) rfl rfl rfl ⟨Nat.le_of_ble_eq_true rfl, Nat.le_of_ble_eq_true rfl, Nat.le_of_ble_eq_true rfl⟩ rfl (k_117 (I := va_up I 60 (nI 0)) (A := A) h hl h61 ?_)
        show mq 156 30 [some (.ref 67), some (.int (nI l)), some (.int (nI 0)), none, none, none] [.int (nI (cS (ow D l) 16))] (hS n u (va_up I 60 (nI 0)) A J B mk sn L xs X) _
        refine x_top (y := nI n') (congrArg nI (SG_n hG)) ?_
        refine x_is1 (pc := 30) (ml' := [some (.ref 67), some (.int (nI l)), some (.int (nI 0)), some (.int (nI n')), none, none]) rfl rfl ?_
        refine x_const (pc := 31) (pc' := 32) (.int (nI 0)) rfl rfl rfl rfl ?_
        refine x_is2 (pc := 32) (ml' := [some (.ref 67), some (.int (nI l)), some (.int (nI 0)), some (.int (nI n')), some (.int (nI 0)), none]) rfl rfl ?_
        refine x_il1 (pc := 34) rfl rfl ?_
        refine x_ifN_ne (pc := 35) (t := 44) rfl rfl (by decide) (fun c => absurd c (by decide)) (fun _ => ?_)
        refine x_al1 (pc := 38) rfl rfl ?_
        refine x_il1 (pc := 39) rfl rfl ?_
        refine x_k (pc := 40) rfl rfl rfl ⟨Nat.le_of_ble_eq_true rfl, Nat.le_of_ble_eq_true rfl, Nat.le_of_ble_eq_true rfl⟩ rfl (k_138 (I := va_up I 60 (nI 0)) (A := A) h hl hG h61 ?_)
        show mq 156 43 [some (.ref 67), some (.int (nI l)), some (.int (nI 0)), some (.int (nI n')), some (.int (nI 0)), none] [.int (stO D f l n')] (hS n u (va_up I 60 (nI 0)) A J B mk sn L xs X) _
        refine x_ret (pc := 43) rfl rfl ?_
        have ev : lgv D f bc (stO D f l n') (nxO D f bc n') n' (nI 0) = stO D f l n' := lkv_0
        rw [ev] at kk
        exact kk _ _ (Fr_u (Fr_refl _ _) (by decide)) (Fr_refl _ _) rfl
    | 1, _, e =>
      subst e
      refine x_al1 (pc := 0) rfl rfl ?_
      refine x_const (pc := 1) (pc' := 2) (.int (nI 0)) rfl rfl rfl rfl ?_
      refine p_67_0 (pc := 2) rfl rfl ?_
      refine x_il1 (pc := 5) rfl rfl ?_
      refine x_ifN_lt (pc := 6) (t := 23) rfl rfl (by omega) ?_
      refine x_il1 (pc := 9) rfl rfl ?_
      refine x_const (pc := 10) (pc' := 11) (.int (nI 3)) rfl rfl rfl rfl ?_
      refine x_cmpN_gt (pc := 11) (t := 23) rfl rfl (by omega) (by omega) (fun c11 => ?_) (fun c11 => ?_)
      · omega
      · refine x_il1 (pc := 14) rfl rfl ?_
        refine x_ifN_lt (pc := 15) (t := 23) rfl rfl (by omega) ?_
        refine x_il1 (pc := 18) rfl rfl ?_
        refine x_const (pc := 19) (pc' := 20) (.int (nI 5)) rfl rfl rfl rfl ?_
        refine x_cmpN_le (pc := 20) (t := 25) rfl rfl (by decide) (by decide) (fun _ => ?_) (fun c => absurd c (by decide))
        refine x_al1 (pc := 25) rfl rfl ?_
        refine x_il1 (pc := 26) rfl rfl ?_
        refine x_k (pc := 27) rfl rfl rfl ⟨Nat.le_of_ble_eq_true rfl, Nat.le_of_ble_eq_true rfl, Nat.le_of_ble_eq_true rfl⟩ rfl (k_117 (I := va_up I 60 (nI 0)) (A := A) h hl h61 ?_)
        show mq 156 30 [some (.ref 67), some (.int (nI l)), some (.int (nI 1)), none, none, none] [.int (nI (cS (ow D l) 16))] (hS n u (va_up I 60 (nI 0)) A J B mk sn L xs X) _
        refine x_top (y := nI n') (congrArg nI (SG_n hG)) ?_
        refine x_is1 (pc := 30) (ml' := [some (.ref 67), some (.int (nI l)), some (.int (nI 1)), some (.int (nI n')), none, none]) rfl rfl ?_
        refine x_const (pc := 31) (pc' := 32) (.int (nI 0)) rfl rfl rfl rfl ?_
        refine x_is2 (pc := 32) (ml' := [some (.ref 67), some (.int (nI l)), some (.int (nI 1)), some (.int (nI n')), some (.int (nI 0)), none]) rfl rfl ?_
        refine x_il1 (pc := 34) rfl rfl ?_
        refine x_ifN_ne (pc := 35) (t := 44) rfl rfl (by decide) (fun _ => ?_) (fun c => absurd c (by decide))
        refine x_il1 (pc := 44) rfl rfl ?_
        refine x_const (pc := 45) (pc' := 46) (.int (nI 1)) rfl rfl rfl rfl ?_
        refine x_cmpN_ne (pc := 46) (t := 55) rfl rfl (by decide) (by decide) (fun c => absurd c (by decide)) (fun _ => ?_)
        refine x_al1 (pc := 49) rfl rfl ?_
        refine x_il1 (pc := 50) rfl rfl ?_
        refine x_k (pc := 51) rfl rfl rfl ⟨Nat.le_of_ble_eq_true rfl, Nat.le_of_ble_eq_true rfl, Nat.le_of_ble_eq_true rfl⟩ rfl (k_116u (I := va_up I 60 (nI 0)) (A := A) (bc := bc) h hl hG hW h61 (fun I1 A1 f1 g1 => ?_))
        show mq 156 54 [some (.ref 67), some (.int (nI l)), some (.int (nI 1)), some (.int (nI n')), some (.int (nI 0)), none] [.int (nxO D f bc n')] (hS n u I1 A1 J B mk sn L xs X) _
        refine x_ret (pc := 54) rfl rfl ?_
        have ev : lgv D f bc (stO D f l n') (nxO D f bc n') n' (nI 1) = nxO D f bc n' := lkv_1
        rw [ev] at kk
        exact kk _ _ (Fr_cons (Fr_u (Fr_refl _ _) (by decide)) f1 (by decide)) (Fr_cons (Fr_refl _ _) g1 (by decide)) (f1 60 (by decide))
    | 2, _, e =>
      subst e
      refine x_al1 (pc := 0) rfl rfl ?_
      refine x_const (pc := 1) (pc' := 2) (.int (nI 0)) rfl rfl rfl rfl ?_
      refine p_67_0 (pc := 2) rfl rfl ?_
      refine x_il1 (pc := 5) rfl rfl ?_
      refine x_ifN_lt (pc := 6) (t := 23) rfl rfl (by omega) ?_
      refine x_il1 (pc := 9) rfl rfl ?_
      refine x_const (pc := 10) (pc' := 11) (.int (nI 3)) rfl rfl rfl rfl ?_
      refine x_cmpN_gt (pc := 11) (t := 23) rfl rfl (by omega) (by omega) (fun c11 => ?_) (fun c11 => ?_)
      · omega
      · refine x_il1 (pc := 14) rfl rfl ?_
        refine x_ifN_lt (pc := 15) (t := 23) rfl rfl (by omega) ?_
        refine x_il1 (pc := 18) rfl rfl ?_
        refine x_const (pc := 19) (pc' := 20) (.int (nI 5)) rfl rfl rfl rfl ?_
        refine x_cmpN_le (pc := 20) (t := 25) rfl rfl (by decide) (by decide) (fun _ => ?_) (fun c => absurd c (by decide))
        refine x_al1 (pc := 25) rfl rfl ?_
        refine x_il1 (pc := 26) rfl rfl ?_
        refine x_k (pc := 27) rfl rfl rfl ⟨Nat.le_of_ble_eq_true rfl, Nat.le_of_ble_eq_true rfl, Nat.le_of_ble_eq_true rfl⟩ rfl (k_117 (I := va_up I 60 (nI 0)) (A := A) h hl h61 ?_)
        show mq 156 30 [some (.ref 67), some (.int (nI l)), some (.int (nI 2)), none, none, none] [.int (nI (cS (ow D l) 16))] (hS n u (va_up I 60 (nI 0)) A J B mk sn L xs X) _
        refine x_top (y := nI n') (congrArg nI (SG_n hG)) ?_
        refine x_is1 (pc := 30) (ml' := [some (.ref 67), some (.int (nI l)), some (.int (nI 2)), some (.int (nI n')), none, none]) rfl rfl ?_
        refine x_const (pc := 31) (pc' := 32) (.int (nI 0)) rfl rfl rfl rfl ?_
        refine x_is2 (pc := 32) (ml' := [some (.ref 67), some (.int (nI l)), some (.int (nI 2)), some (.int (nI n')), some (.int (nI 0)), none]) rfl rfl ?_
        refine x_il1 (pc := 34) rfl rfl ?_
        refine x_ifN_ne (pc := 35) (t := 44) rfl rfl (by decide) (fun _ => ?_) (fun c => absurd c (by decide))
        refine x_il1 (pc := 44) rfl rfl ?_
        refine x_const (pc := 45) (pc' := 46) (.int (nI 1)) rfl rfl rfl rfl ?_
        refine x_cmpN_ne (pc := 46) (t := 55) rfl rfl (by decide) (by decide) (fun _ => ?_) (fun c => absurd c (by decide))
        refine x_il1 (pc := 55) rfl rfl ?_
        refine x_const (pc := 56) (pc' := 57) (.int (nI 2)) rfl rfl rfl rfl ?_
        refine x_cmpN_ne (pc := 57) (t := 62) rfl rfl (by decide) (by decide) (fun c => absurd c (by decide)) (fun _ => ?_)
        refine x_il1 (pc := 60) rfl rfl ?_
        refine x_ret (pc := 61) rfl rfl ?_
        have ev : lgv D f bc (stO D f l n') (nxO D f bc n') n' (nI 2) = nI n' := lkv_2
        rw [ev] at kk
        exact kk _ _ (Fr_u (Fr_refl _ _) (by decide)) (Fr_refl _ _) rfl
    | 3, _, e =>
      subst e
      refine x_al1 (pc := 0) rfl rfl ?_
      refine x_const (pc := 1) (pc' := 2) (.int (nI 0)) rfl rfl rfl rfl ?_
      refine p_67_0 (pc := 2) rfl rfl ?_
      refine x_il1 (pc := 5) rfl rfl ?_
      refine x_ifN_lt (pc := 6) (t := 23) rfl rfl (by omega) ?_
      refine x_il1 (pc := 9) rfl rfl ?_
      refine x_const (pc := 10) (pc' := 11) (.int (nI 3)) rfl rfl rfl rfl ?_
      refine x_cmpN_gt (pc := 11) (t := 23) rfl rfl (by omega) (by omega) (fun c11 => ?_) (fun c11 => ?_)
      · omega
      · refine x_il1 (pc := 14) rfl rfl ?_
        refine x_ifN_lt (pc := 15) (t := 23) rfl rfl (by omega) ?_
        refine x_il1 (pc := 18) rfl rfl ?_
        refine x_const (pc := 19) (pc' := 20) (.int (nI 5)) rfl rfl rfl rfl ?_
        refine x_cmpN_le (pc := 20) (t := 25) rfl rfl (by decide) (by decide) (fun _ => ?_) (fun c => absurd c (by decide))
        refine x_al1 (pc := 25) rfl rfl ?_
        refine x_il1 (pc := 26) rfl rfl ?_
        refine x_k (pc := 27) rfl rfl rfl ⟨Nat.le_of_ble_eq_true rfl, Nat.le_of_ble_eq_true rfl, Nat.le_of_ble_eq_true rfl⟩ rfl (k_117 (I := va_up I 60 (nI 0)) (A := A) h hl h61 ?_)
        show mq 156 30 [some (.ref 67), some (.int (nI l)), some (.int (nI 3)), none, none, none] [.int (nI (cS (ow D l) 16))] (hS n u (va_up I 60 (nI 0)) A J B mk sn L xs X) _
        refine x_top (y := nI n') (congrArg nI (SG_n hG)) ?_
        refine x_is1 (pc := 30) (ml' := [some (.ref 67), some (.int (nI l)), some (.int (nI 3)), some (.int (nI n')), none, none]) rfl rfl ?_
        refine x_const (pc := 31) (pc' := 32) (.int (nI 0)) rfl rfl rfl rfl ?_
        refine x_is2 (pc := 32) (ml' := [some (.ref 67), some (.int (nI l)), some (.int (nI 3)), some (.int (nI n')), some (.int (nI 0)), none]) rfl rfl ?_
        refine x_il1 (pc := 34) rfl rfl ?_
        refine x_ifN_ne (pc := 35) (t := 44) rfl rfl (by decide) (fun _ => ?_) (fun c => absurd c (by decide))
        refine x_il1 (pc := 44) rfl rfl ?_
        refine x_const (pc := 45) (pc' := 46) (.int (nI 1)) rfl rfl rfl rfl ?_
        refine x_cmpN_ne (pc := 46) (t := 55) rfl rfl (by decide) (by decide) (fun _ => ?_) (fun c => absurd c (by decide))
        refine x_il1 (pc := 55) rfl rfl ?_
        refine x_const (pc := 56) (pc' := 57) (.int (nI 2)) rfl rfl rfl rfl ?_
        refine x_cmpN_ne (pc := 57) (t := 62) rfl rfl (by decide) (by decide) (fun _ => ?_) (fun c => absurd c (by decide))
        refine x_il1 (pc := 62) rfl rfl ?_
        refine x_const (pc := 63) (pc' := 64) (.int (nI 5)) rfl rfl rfl rfl ?_
        refine x_cmpN_ne (pc := 64) (t := 88) rfl rfl (by decide) (by decide) (fun _ => ?_) (fun c => absurd c (by decide))
        refine x_const (pc := 88) (pc' := 89) (.int (nI 0)) rfl rfl rfl rfl ?_
        refine x_is2 (pc := 89) (ml' := [some (.ref 67), some (.int (nI l)), some (.int (nI 3)), some (.int (nI n')), some (.int (nI 0)), some (.int (nI 0))]) rfl rfl ?_
        have ev : lgv D f bc (stO D f l n') (nxO D f bc n') n' (nI 3) = nI (mkS D f n' 0) := lkv_3
        rw [ev] at kk
        rw [← Nat.zero_add (mkS D f n' 0)] at kk
        exact l_156_3 (I := va_up I 60 (nI 0)) (A := A) hl hG hW n' 0 0 h (Nat.zero_add _) h61 (fun I2 A2 f2 g2 => kk I2 A2 (Fr_cons (Fr_u (Fr_refl _ _) (by decide)) f2 (by decide)) g2 (f2 60 (by decide)))
    | 4, _, e =>
      subst e
      refine x_al1 (pc := 0) rfl rfl ?_
      refine x_const (pc := 1) (pc' := 2) (.int (nI 0)) rfl rfl rfl rfl ?_
      refine p_67_0 (pc := 2) rfl rfl ?_
      refine x_il1 (pc := 5) rfl rfl ?_
      refine x_ifN_lt (pc := 6) (t := 23) rfl rfl (by omega) ?_
      refine x_il1 (pc := 9) rfl rfl ?_
      refine x_const (pc := 10) (pc' := 11) (.int (nI 3)) rfl rfl rfl rfl ?_
      refine x_cmpN_gt (pc := 11) (t := 23) rfl rfl (by omega) (by omega) (fun c11 => ?_) (fun c11 => ?_)
      · omega
      · refine x_il1 (pc := 14) rfl rfl ?_
        refine x_ifN_lt (pc := 15) (t := 23) rfl rfl (by omega) ?_
        refine x_il1 (pc := 18) rfl rfl ?_
        refine x_const (pc := 19) (pc' := 20) (.int (nI 5)) rfl rfl rfl rfl ?_
        refine x_cmpN_le (pc := 20) (t := 25) rfl rfl (by decide) (by decide) (fun _ => ?_) (fun c => absurd c (by decide))
        refine x_al1 (pc := 25) rfl rfl ?_
        refine x_il1 (pc := 26) rfl rfl ?_
        refine x_k (pc := 27) rfl rfl rfl ⟨Nat.le_of_ble_eq_true rfl, Nat.le_of_ble_eq_true rfl, Nat.le_of_ble_eq_true rfl⟩ rfl (k_117 (I := va_up I 60 (nI 0)) (A := A) h hl h61 ?_)
        show mq 156 30 [some (.ref 67), some (.int (nI l)), some (.int (nI 4)), none, none, none] [.int (nI (cS (ow D l) 16))] (hS n u (va_up I 60 (nI 0)) A J B mk sn L xs X) _
        refine x_top (y := nI n') (congrArg nI (SG_n hG)) ?_
        refine x_is1 (pc := 30) (ml' := [some (.ref 67), some (.int (nI l)), some (.int (nI 4)), some (.int (nI n')), none, none]) rfl rfl ?_
        refine x_const (pc := 31) (pc' := 32) (.int (nI 0)) rfl rfl rfl rfl ?_
        refine x_is2 (pc := 32) (ml' := [some (.ref 67), some (.int (nI l)), some (.int (nI 4)), some (.int (nI n')), some (.int (nI 0)), none]) rfl rfl ?_
        refine x_il1 (pc := 34) rfl rfl ?_
        refine x_ifN_ne (pc := 35) (t := 44) rfl rfl (by decide) (fun _ => ?_) (fun c => absurd c (by decide))
        refine x_il1 (pc := 44) rfl rfl ?_
        refine x_const (pc := 45) (pc' := 46) (.int (nI 1)) rfl rfl rfl rfl ?_
        refine x_cmpN_ne (pc := 46) (t := 55) rfl rfl (by decide) (by decide) (fun _ => ?_) (fun c => absurd c (by decide))
        refine x_il1 (pc := 55) rfl rfl ?_
        refine x_const (pc := 56) (pc' := 57) (.int (nI 2)) rfl rfl rfl rfl ?_
        refine x_cmpN_ne (pc := 57) (t := 62) rfl rfl (by decide) (by decide) (fun _ => ?_) (fun c => absurd c (by decide))
        refine x_il1 (pc := 62) rfl rfl ?_
        refine x_const (pc := 63) (pc' := 64) (.int (nI 5)) rfl rfl rfl rfl ?_
        refine x_cmpN_ne (pc := 64) (t := 88) rfl rfl (by decide) (by decide) (fun _ => ?_) (fun c => absurd c (by decide))
        refine x_const (pc := 88) (pc' := 89) (.int (nI 0)) rfl rfl rfl rfl ?_
        refine x_is2 (pc := 89) (ml' := [some (.ref 67), some (.int (nI l)), some (.int (nI 4)), some (.int (nI n')), some (.int (nI 0)), some (.int (nI 0))]) rfl rfl ?_
        have ev : lgv D f bc (stO D f l n') (nxO D f bc n') n' (nI 4) = nI (nL D f bc n' 0) := lkv_4
        rw [ev] at kk
        rw [← Nat.zero_add (nL D f bc n' 0)] at kk
        exact l_156_4 (I := va_up I 60 (nI 0)) (A := A) hl hG hW n' 0 0 h (Nat.zero_add _) h61 (fun I2 A2 f2 g2 => kk I2 A2 (Fr_cons (Fr_u (Fr_refl _ _) (by decide)) f2 (by decide)) g2 (f2 60 (by decide)))
    | 5, _, e =>
      subst e
      refine x_al1 (pc := 0) rfl rfl ?_
      refine x_const (pc := 1) (pc' := 2) (.int (nI 0)) rfl rfl rfl rfl ?_
      refine p_67_0 (pc := 2) rfl rfl ?_
      refine x_il1 (pc := 5) rfl rfl ?_
      refine x_ifN_lt (pc := 6) (t := 23) rfl rfl (by omega) ?_
      refine x_il1 (pc := 9) rfl rfl ?_
      refine x_const (pc := 10) (pc' := 11) (.int (nI 3)) rfl rfl rfl rfl ?_
      refine x_cmpN_gt (pc := 11) (t := 23) rfl rfl (by omega) (by omega) (fun c11 => ?_) (fun c11 => ?_)
      · omega
      · refine x_il1 (pc := 14) rfl rfl ?_
        refine x_ifN_lt (pc := 15) (t := 23) rfl rfl (by omega) ?_
        refine x_il1 (pc := 18) rfl rfl ?_
        refine x_const (pc := 19) (pc' := 20) (.int (nI 5)) rfl rfl rfl rfl ?_
        refine x_cmpN_le (pc := 20) (t := 25) rfl rfl (by decide) (by decide) (fun _ => ?_) (fun c => absurd c (by decide))
        refine x_al1 (pc := 25) rfl rfl ?_
        refine x_il1 (pc := 26) rfl rfl ?_
        refine x_k (pc := 27) rfl rfl rfl ⟨Nat.le_of_ble_eq_true rfl, Nat.le_of_ble_eq_true rfl, Nat.le_of_ble_eq_true rfl⟩ rfl (k_117 (I := va_up I 60 (nI 0)) (A := A) h hl h61 ?_)
        show mq 156 30 [some (.ref 67), some (.int (nI l)), some (.int (nI 5)), none, none, none] [.int (nI (cS (ow D l) 16))] (hS n u (va_up I 60 (nI 0)) A J B mk sn L xs X) _
        refine x_top (y := nI n') (congrArg nI (SG_n hG)) ?_
        refine x_is1 (pc := 30) (ml' := [some (.ref 67), some (.int (nI l)), some (.int (nI 5)), some (.int (nI n')), none, none]) rfl rfl ?_
        refine x_const (pc := 31) (pc' := 32) (.int (nI 0)) rfl rfl rfl rfl ?_
        refine x_is2 (pc := 32) (ml' := [some (.ref 67), some (.int (nI l)), some (.int (nI 5)), some (.int (nI n')), some (.int (nI 0)), none]) rfl rfl ?_
        refine x_il1 (pc := 34) rfl rfl ?_
        refine x_ifN_ne (pc := 35) (t := 44) rfl rfl (by decide) (fun _ => ?_) (fun c => absurd c (by decide))
        refine x_il1 (pc := 44) rfl rfl ?_
        refine x_const (pc := 45) (pc' := 46) (.int (nI 1)) rfl rfl rfl rfl ?_
        refine x_cmpN_ne (pc := 46) (t := 55) rfl rfl (by decide) (by decide) (fun _ => ?_) (fun c => absurd c (by decide))
        refine x_il1 (pc := 55) rfl rfl ?_
        refine x_const (pc := 56) (pc' := 57) (.int (nI 2)) rfl rfl rfl rfl ?_
        refine x_cmpN_ne (pc := 57) (t := 62) rfl rfl (by decide) (by decide) (fun _ => ?_) (fun c => absurd c (by decide))
        refine x_il1 (pc := 62) rfl rfl ?_
        refine x_const (pc := 63) (pc' := 64) (.int (nI 5)) rfl rfl rfl rfl ?_
        refine x_cmpN_ne (pc := 64) (t := 88) rfl rfl (by decide) (by decide) (fun c => absurd c (by decide)) (fun _ => ?_)
        refine x_il1 (pc := 67) rfl rfl ?_
        refine x_ifN_ne (pc := 68) (t := 75) rfl rfl (by omega) (fun c68 => ?_) (fun c68 => ?_)
        · refine x_al1 (pc := 75) rfl rfl ?_
          refine x_al1 (pc := 76) rfl rfl ?_
          refine x_il1 (pc := 77) rfl rfl ?_
          refine x_il1 (pc := 78) rfl rfl ?_
          refine x_const (pc := 79) (pc' := 80) (.int (nI 1)) rfl rfl rfl rfl ?_
          refine x_isubN (pc := 80) rfl ((by omega)) ?_
          refine x_k (pc := 81) rfl rfl rfl ⟨Nat.le_of_ble_eq_true rfl, Nat.le_of_ble_eq_true rfl, Nat.le_of_ble_eq_true rfl⟩ rfl (k_119 (I := va_up I 60 (nI 0)) (A := A) (m := n' - 1) h hG (by omega) hl h61 ?_)
          show mq 156 84 [some (.ref 67), some (.int (nI l)), some (.int (nI 5)), some (.int (nI n')), some (.int (nI 0)), none] [.int (nI (f (n' - 1))), .ref 67] (hS n u (va_up I 60 (nI 0)) A J B mk sn L xs X) _
          refine x_k (pc := 84) rfl rfl rfl ⟨Nat.le_of_ble_eq_true rfl, Nat.le_of_ble_eq_true rfl, Nat.le_of_ble_eq_true rfl⟩ rfl (mq_k (c_120 h (hG.1 _ (by omega)).1) ?_)
          show mq 156 87 [some (.ref 67), some (.int (nI l)), some (.int (nI 5)), some (.int (nI n')), some (.int (nI 0)), none] [.int (nI (bB D (f (n' - 1))))] (hS n u (va_up I 60 (nI 0)) A J B mk sn L xs X) _
          refine x_ret (pc := 87) rfl rfl ?_
          have ev : lgv D f bc (stO D f l n') (nxO D f bc n') n' (nI 5) = (if n' = 0 then -1 else nI (bB D (f (n' - 1)))) := lkv_5
          rw [ev] at kk
          rw [if_neg c68] at kk
          exact kk _ _ (Fr_u (Fr_refl _ _) (by decide)) (Fr_refl _ _) rfl
        · refine x_const (pc := 71) (pc' := 72) (.int (-1)) rfl rfl rfl rfl ?_
          refine x_step (pc := 72) (pc' := 87) rfl rfl rfl rfl ?_
          refine x_ret (pc := 87) rfl rfl ?_
          have ev : lgv D f bc (stO D f l n') (nxO D f bc n') n' (nI 5) = (if n' = 0 then -1 else nI (bB D (f (n' - 1)))) := lkv_5
          rw [ev] at kk
          rw [if_pos c68] at kk
          exact kk _ _ (Fr_u (Fr_refl _ _) (by decide)) (Fr_refl _ _) rfl
set_option maxRecDepth 100000 in
set_option maxHeartbeats 4000000 in
theorem k_156f {l : Nat} {f bc : Nat → Nat} (hl : l < 4) (h61 : I 61 = nI 1) {w : Int32} {Q : mO × mHp → Prop} (kk : Q (.inl (some (.int (lgv D f bc (nI 0) (nI 0) 0 w))), hS n u (va_up I 60 (nI 0)) A J B mk sn L xs X)) : mq 156 0 [some (.ref 67), some (.int (nI l)), some (.int w), none, none, none] [] (hS n u I A J B mk sn L xs X) Q := by
  rcases pk_ix w (n := 6) (by decide) with c | c | ⟨j, c, e⟩
  · have hx : w < 0 ∨ nI 6 ≤ w := Or.inl c
    have ev : lgv D f bc (nI 0) (nI 0) 0 w = -1 := lkv_b hx
    rw [ev] at kk
    refine x_al1 (pc := 0) rfl rfl ?_
    refine x_const (pc := 1) (pc' := 2) (.int (nI 0)) rfl rfl rfl rfl ?_
    refine p_67_0 (pc := 2) rfl rfl ?_
    refine x_il1 (pc := 5) rfl rfl ?_
    refine x_ifN_lt (pc := 6) (t := 23) rfl rfl (by omega) ?_
    refine x_il1 (pc := 9) rfl rfl ?_
    refine x_const (pc := 10) (pc' := 11) (.int (nI 3)) rfl rfl rfl rfl ?_
    refine x_cmpN_gt (pc := 11) (t := 23) rfl rfl (by omega) (by omega) (fun c11 => ?_) (fun c11 => ?_)
    · omega
    · refine x_il1 (pc := 14) rfl rfl ?_
      refine x_if_lt (pc := 15) (t := 23) rfl rfl rfl (fun c15 => ?_) (fun c15 => ?_)
      · refine x_const (pc := 23) (pc' := 24) (.int (-1)) rfl rfl rfl rfl ?_
        refine x_ret (pc := 24) rfl rfl ?_
        exact kk
      · refine x_il1 (pc := 18) rfl rfl ?_
        refine x_const (pc := 19) (pc' := 20) (.int (nI 5)) rfl rfl rfl rfl ?_
        refine x_cmp_le (pc := 20) (t := 25) rfl rfl rfl (fun c20 => ?_) (fun c20 => ?_)
        · exact absurd hx (fun q => q.elim c15 (fun q => absurd (ngt_of (m := 5) (by decide) (Int32.not_lt.mpr c20)) (fun z => z q)))
        · refine x_const (pc := 23) (pc' := 24) (.int (-1)) rfl rfl rfl rfl ?_
          refine x_ret (pc := 24) rfl rfl ?_
          exact kk
  · have hx : w < 0 ∨ nI 6 ≤ w := Or.inr c
    have ev : lgv D f bc (nI 0) (nI 0) 0 w = -1 := lkv_b hx
    rw [ev] at kk
    refine x_al1 (pc := 0) rfl rfl ?_
    refine x_const (pc := 1) (pc' := 2) (.int (nI 0)) rfl rfl rfl rfl ?_
    refine p_67_0 (pc := 2) rfl rfl ?_
    refine x_il1 (pc := 5) rfl rfl ?_
    refine x_ifN_lt (pc := 6) (t := 23) rfl rfl (by omega) ?_
    refine x_il1 (pc := 9) rfl rfl ?_
    refine x_const (pc := 10) (pc' := 11) (.int (nI 3)) rfl rfl rfl rfl ?_
    refine x_cmpN_gt (pc := 11) (t := 23) rfl rfl (by omega) (by omega) (fun c11 => ?_) (fun c11 => ?_)
    · omega
    · refine x_il1 (pc := 14) rfl rfl ?_
      refine x_if_lt (pc := 15) (t := 23) rfl rfl rfl (fun c15 => ?_) (fun c15 => ?_)
      · refine x_const (pc := 23) (pc' := 24) (.int (-1)) rfl rfl rfl rfl ?_
        refine x_ret (pc := 24) rfl rfl ?_
        exact kk
      · refine x_il1 (pc := 18) rfl rfl ?_
        refine x_const (pc := 19) (pc' := 20) (.int (nI 5)) rfl rfl rfl rfl ?_
        refine x_cmp_le (pc := 20) (t := 25) rfl rfl rfl (fun c20 => ?_) (fun c20 => ?_)
        · exact absurd hx (fun q => q.elim c15 (fun q => absurd (ngt_of (m := 5) (by decide) (Int32.not_lt.mpr c20)) (fun z => z q)))
        · refine x_const (pc := 23) (pc' := 24) (.int (-1)) rfl rfl rfl rfl ?_
          refine x_ret (pc := 24) rfl rfl ?_
          exact kk
  · match j, c, e with
    | 0, _, e =>
      subst e
      have ev : lgv D f bc (nI 0) (nI 0) 0 (nI 0) = nI 0 := lkv_0
      rw [ev] at kk
      refine x_al1 (pc := 0) rfl rfl ?_
      refine x_const (pc := 1) (pc' := 2) (.int (nI 0)) rfl rfl rfl rfl ?_
      refine p_67_0 (pc := 2) rfl rfl ?_
      refine x_il1 (pc := 5) rfl rfl ?_
      refine x_ifN_lt (pc := 6) (t := 23) rfl rfl (by omega) ?_
      refine x_il1 (pc := 9) rfl rfl ?_
      refine x_const (pc := 10) (pc' := 11) (.int (nI 3)) rfl rfl rfl rfl ?_
      refine x_cmpN_gt (pc := 11) (t := 23) rfl rfl (by omega) (by omega) (fun c11 => ?_) (fun c11 => ?_)
      · omega
      · refine x_il1 (pc := 14) rfl rfl ?_
        refine x_ifN_lt (pc := 15) (t := 23) rfl rfl (by omega) ?_
        refine x_il1 (pc := 18) rfl rfl ?_
        refine x_const (pc := 19) (pc' := 20) (.int (nI 5)) rfl rfl rfl rfl ?_
        refine x_cmpN_le (pc := 20) (t := 25) rfl rfl (by decide) (by decide) (fun _ => ?_) (fun c => absurd c (by decide))
        refine x_al1 (pc := 25) rfl rfl ?_
        refine x_il1 (pc := 26) rfl rfl ?_
        refine x_k (pc := 27) rfl rfl rfl ⟨Nat.le_of_ble_eq_true rfl, Nat.le_of_ble_eq_true rfl, Nat.le_of_ble_eq_true rfl⟩ rfl (k_117f (I := va_up I 60 (nI 0)) (A := A) h61 ?_)
        show mq 156 30 [some (.ref 67), some (.int (nI l)), some (.int (nI 0)), none, none, none] [.int (nI 0)] (hS n u (va_up I 60 (nI 0)) A J B mk sn L xs X) _
        refine x_is1 (pc := 30) (ml' := [some (.ref 67), some (.int (nI l)), some (.int (nI 0)), some (.int (nI 0)), none, none]) rfl rfl ?_
        refine x_const (pc := 31) (pc' := 32) (.int (nI 0)) rfl rfl rfl rfl ?_
        refine x_is2 (pc := 32) (ml' := [some (.ref 67), some (.int (nI l)), some (.int (nI 0)), some (.int (nI 0)), some (.int (nI 0)), none]) rfl rfl ?_
        refine x_il1 (pc := 34) rfl rfl ?_
        refine x_ifN_ne (pc := 35) (t := 44) rfl rfl (by decide) (fun c => absurd c (by decide)) (fun _ => ?_)
        refine x_al1 (pc := 38) rfl rfl ?_
        refine x_il1 (pc := 39) rfl rfl ?_
        refine x_k (pc := 40) rfl rfl rfl ⟨Nat.le_of_ble_eq_true rfl, Nat.le_of_ble_eq_true rfl, Nat.le_of_ble_eq_true rfl⟩ rfl (k_138f (I := va_up I 60 (nI 0)) (A := A) hl h61 ?_)
        show mq 156 43 [some (.ref 67), some (.int (nI l)), some (.int (nI 0)), some (.int (nI 0)), some (.int (nI 0)), none] [.int (nI 0)] (hS n u (va_up I 60 (nI 0)) A J B mk sn L xs X) _
        refine x_ret (pc := 43) rfl rfl ?_
        exact kk
    | 1, _, e =>
      subst e
      have ev : lgv D f bc (nI 0) (nI 0) 0 (nI 1) = nI 0 := lkv_1
      rw [ev] at kk
      refine x_al1 (pc := 0) rfl rfl ?_
      refine x_const (pc := 1) (pc' := 2) (.int (nI 0)) rfl rfl rfl rfl ?_
      refine p_67_0 (pc := 2) rfl rfl ?_
      refine x_il1 (pc := 5) rfl rfl ?_
      refine x_ifN_lt (pc := 6) (t := 23) rfl rfl (by omega) ?_
      refine x_il1 (pc := 9) rfl rfl ?_
      refine x_const (pc := 10) (pc' := 11) (.int (nI 3)) rfl rfl rfl rfl ?_
      refine x_cmpN_gt (pc := 11) (t := 23) rfl rfl (by omega) (by omega) (fun c11 => ?_) (fun c11 => ?_)
      · omega
      · refine x_il1 (pc := 14) rfl rfl ?_
        refine x_ifN_lt (pc := 15) (t := 23) rfl rfl (by omega) ?_
        refine x_il1 (pc := 18) rfl rfl ?_
        refine x_const (pc := 19) (pc' := 20) (.int (nI 5)) rfl rfl rfl rfl ?_
        refine x_cmpN_le (pc := 20) (t := 25) rfl rfl (by decide) (by decide) (fun _ => ?_) (fun c => absurd c (by decide))
        refine x_al1 (pc := 25) rfl rfl ?_
        refine x_il1 (pc := 26) rfl rfl ?_
        refine x_k (pc := 27) rfl rfl rfl ⟨Nat.le_of_ble_eq_true rfl, Nat.le_of_ble_eq_true rfl, Nat.le_of_ble_eq_true rfl⟩ rfl (k_117f (I := va_up I 60 (nI 0)) (A := A) h61 ?_)
        show mq 156 30 [some (.ref 67), some (.int (nI l)), some (.int (nI 1)), none, none, none] [.int (nI 0)] (hS n u (va_up I 60 (nI 0)) A J B mk sn L xs X) _
        refine x_is1 (pc := 30) (ml' := [some (.ref 67), some (.int (nI l)), some (.int (nI 1)), some (.int (nI 0)), none, none]) rfl rfl ?_
        refine x_const (pc := 31) (pc' := 32) (.int (nI 0)) rfl rfl rfl rfl ?_
        refine x_is2 (pc := 32) (ml' := [some (.ref 67), some (.int (nI l)), some (.int (nI 1)), some (.int (nI 0)), some (.int (nI 0)), none]) rfl rfl ?_
        refine x_il1 (pc := 34) rfl rfl ?_
        refine x_ifN_ne (pc := 35) (t := 44) rfl rfl (by decide) (fun _ => ?_) (fun c => absurd c (by decide))
        refine x_il1 (pc := 44) rfl rfl ?_
        refine x_const (pc := 45) (pc' := 46) (.int (nI 1)) rfl rfl rfl rfl ?_
        refine x_cmpN_ne (pc := 46) (t := 55) rfl rfl (by decide) (by decide) (fun c => absurd c (by decide)) (fun _ => ?_)
        refine x_al1 (pc := 49) rfl rfl ?_
        refine x_il1 (pc := 50) rfl rfl ?_
        refine x_k (pc := 51) rfl rfl rfl ⟨Nat.le_of_ble_eq_true rfl, Nat.le_of_ble_eq_true rfl, Nat.le_of_ble_eq_true rfl⟩ rfl (k_116f (I := va_up I 60 (nI 0)) (A := A) h61 ?_)
        show mq 156 54 [some (.ref 67), some (.int (nI l)), some (.int (nI 1)), some (.int (nI 0)), some (.int (nI 0)), none] [.int (nI 0)] (hS n u (va_up I 60 (nI 0)) A J B mk sn L xs X) _
        refine x_ret (pc := 54) rfl rfl ?_
        exact kk
    | 2, _, e =>
      subst e
      have ev : lgv D f bc (nI 0) (nI 0) 0 (nI 2) = nI 0 := lkv_2
      rw [ev] at kk
      refine x_al1 (pc := 0) rfl rfl ?_
      refine x_const (pc := 1) (pc' := 2) (.int (nI 0)) rfl rfl rfl rfl ?_
      refine p_67_0 (pc := 2) rfl rfl ?_
      refine x_il1 (pc := 5) rfl rfl ?_
      refine x_ifN_lt (pc := 6) (t := 23) rfl rfl (by omega) ?_
      refine x_il1 (pc := 9) rfl rfl ?_
      refine x_const (pc := 10) (pc' := 11) (.int (nI 3)) rfl rfl rfl rfl ?_
      refine x_cmpN_gt (pc := 11) (t := 23) rfl rfl (by omega) (by omega) (fun c11 => ?_) (fun c11 => ?_)
      · omega
      · refine x_il1 (pc := 14) rfl rfl ?_
        refine x_ifN_lt (pc := 15) (t := 23) rfl rfl (by omega) ?_
        refine x_il1 (pc := 18) rfl rfl ?_
        refine x_const (pc := 19) (pc' := 20) (.int (nI 5)) rfl rfl rfl rfl ?_
        refine x_cmpN_le (pc := 20) (t := 25) rfl rfl (by decide) (by decide) (fun _ => ?_) (fun c => absurd c (by decide))
        refine x_al1 (pc := 25) rfl rfl ?_
        refine x_il1 (pc := 26) rfl rfl ?_
        refine x_k (pc := 27) rfl rfl rfl ⟨Nat.le_of_ble_eq_true rfl, Nat.le_of_ble_eq_true rfl, Nat.le_of_ble_eq_true rfl⟩ rfl (k_117f (I := va_up I 60 (nI 0)) (A := A) h61 ?_)
        show mq 156 30 [some (.ref 67), some (.int (nI l)), some (.int (nI 2)), none, none, none] [.int (nI 0)] (hS n u (va_up I 60 (nI 0)) A J B mk sn L xs X) _
        refine x_is1 (pc := 30) (ml' := [some (.ref 67), some (.int (nI l)), some (.int (nI 2)), some (.int (nI 0)), none, none]) rfl rfl ?_
        refine x_const (pc := 31) (pc' := 32) (.int (nI 0)) rfl rfl rfl rfl ?_
        refine x_is2 (pc := 32) (ml' := [some (.ref 67), some (.int (nI l)), some (.int (nI 2)), some (.int (nI 0)), some (.int (nI 0)), none]) rfl rfl ?_
        refine x_il1 (pc := 34) rfl rfl ?_
        refine x_ifN_ne (pc := 35) (t := 44) rfl rfl (by decide) (fun _ => ?_) (fun c => absurd c (by decide))
        refine x_il1 (pc := 44) rfl rfl ?_
        refine x_const (pc := 45) (pc' := 46) (.int (nI 1)) rfl rfl rfl rfl ?_
        refine x_cmpN_ne (pc := 46) (t := 55) rfl rfl (by decide) (by decide) (fun _ => ?_) (fun c => absurd c (by decide))
        refine x_il1 (pc := 55) rfl rfl ?_
        refine x_const (pc := 56) (pc' := 57) (.int (nI 2)) rfl rfl rfl rfl ?_
        refine x_cmpN_ne (pc := 57) (t := 62) rfl rfl (by decide) (by decide) (fun c => absurd c (by decide)) (fun _ => ?_)
        refine x_il1 (pc := 60) rfl rfl ?_
        refine x_ret (pc := 61) rfl rfl ?_
        exact kk
    | 3, _, e =>
      subst e
      have ev : lgv D f bc (nI 0) (nI 0) 0 (nI 3) = nI 0 := lkv_3
      rw [ev] at kk
      refine x_al1 (pc := 0) rfl rfl ?_
      refine x_const (pc := 1) (pc' := 2) (.int (nI 0)) rfl rfl rfl rfl ?_
      refine p_67_0 (pc := 2) rfl rfl ?_
      refine x_il1 (pc := 5) rfl rfl ?_
      refine x_ifN_lt (pc := 6) (t := 23) rfl rfl (by omega) ?_
      refine x_il1 (pc := 9) rfl rfl ?_
      refine x_const (pc := 10) (pc' := 11) (.int (nI 3)) rfl rfl rfl rfl ?_
      refine x_cmpN_gt (pc := 11) (t := 23) rfl rfl (by omega) (by omega) (fun c11 => ?_) (fun c11 => ?_)
      · omega
      · refine x_il1 (pc := 14) rfl rfl ?_
        refine x_ifN_lt (pc := 15) (t := 23) rfl rfl (by omega) ?_
        refine x_il1 (pc := 18) rfl rfl ?_
        refine x_const (pc := 19) (pc' := 20) (.int (nI 5)) rfl rfl rfl rfl ?_
        refine x_cmpN_le (pc := 20) (t := 25) rfl rfl (by decide) (by decide) (fun _ => ?_) (fun c => absurd c (by decide))
        refine x_al1 (pc := 25) rfl rfl ?_
        refine x_il1 (pc := 26) rfl rfl ?_
        refine x_k (pc := 27) rfl rfl rfl ⟨Nat.le_of_ble_eq_true rfl, Nat.le_of_ble_eq_true rfl, Nat.le_of_ble_eq_true rfl⟩ rfl (k_117f (I := va_up I 60 (nI 0)) (A := A) h61 ?_)
        show mq 156 30 [some (.ref 67), some (.int (nI l)), some (.int (nI 3)), none, none, none] [.int (nI 0)] (hS n u (va_up I 60 (nI 0)) A J B mk sn L xs X) _
        refine x_is1 (pc := 30) (ml' := [some (.ref 67), some (.int (nI l)), some (.int (nI 3)), some (.int (nI 0)), none, none]) rfl rfl ?_
        refine x_const (pc := 31) (pc' := 32) (.int (nI 0)) rfl rfl rfl rfl ?_
        refine x_is2 (pc := 32) (ml' := [some (.ref 67), some (.int (nI l)), some (.int (nI 3)), some (.int (nI 0)), some (.int (nI 0)), none]) rfl rfl ?_
        refine x_il1 (pc := 34) rfl rfl ?_
        refine x_ifN_ne (pc := 35) (t := 44) rfl rfl (by decide) (fun _ => ?_) (fun c => absurd c (by decide))
        refine x_il1 (pc := 44) rfl rfl ?_
        refine x_const (pc := 45) (pc' := 46) (.int (nI 1)) rfl rfl rfl rfl ?_
        refine x_cmpN_ne (pc := 46) (t := 55) rfl rfl (by decide) (by decide) (fun _ => ?_) (fun c => absurd c (by decide))
        refine x_il1 (pc := 55) rfl rfl ?_
        refine x_const (pc := 56) (pc' := 57) (.int (nI 2)) rfl rfl rfl rfl ?_
        refine x_cmpN_ne (pc := 57) (t := 62) rfl rfl (by decide) (by decide) (fun _ => ?_) (fun c => absurd c (by decide))
        refine x_il1 (pc := 62) rfl rfl ?_
        refine x_const (pc := 63) (pc' := 64) (.int (nI 5)) rfl rfl rfl rfl ?_
        refine x_cmpN_ne (pc := 64) (t := 88) rfl rfl (by decide) (by decide) (fun _ => ?_) (fun c => absurd c (by decide))
        refine x_const (pc := 88) (pc' := 89) (.int (nI 0)) rfl rfl rfl rfl ?_
        refine x_is2 (pc := 89) (ml' := [some (.ref 67), some (.int (nI l)), some (.int (nI 3)), some (.int (nI 0)), some (.int (nI 0)), some (.int (nI 0))]) rfl rfl ?_
        refine x_il2 (pc := 91) rfl rfl ?_
        refine x_il1 (pc := 93) rfl rfl ?_
        refine x_cmpN_ge (pc := 94) (t := 138) rfl rfl (by decide) (by decide) (fun _ => ?_) (fun c => absurd c (by decide))
        refine x_il2 (pc := 138) rfl rfl ?_
        refine x_ret (pc := 140) rfl rfl ?_
        exact kk
    | 4, _, e =>
      subst e
      have ev : lgv D f bc (nI 0) (nI 0) 0 (nI 4) = nI 0 := lkv_4
      rw [ev] at kk
      refine x_al1 (pc := 0) rfl rfl ?_
      refine x_const (pc := 1) (pc' := 2) (.int (nI 0)) rfl rfl rfl rfl ?_
      refine p_67_0 (pc := 2) rfl rfl ?_
      refine x_il1 (pc := 5) rfl rfl ?_
      refine x_ifN_lt (pc := 6) (t := 23) rfl rfl (by omega) ?_
      refine x_il1 (pc := 9) rfl rfl ?_
      refine x_const (pc := 10) (pc' := 11) (.int (nI 3)) rfl rfl rfl rfl ?_
      refine x_cmpN_gt (pc := 11) (t := 23) rfl rfl (by omega) (by omega) (fun c11 => ?_) (fun c11 => ?_)
      · omega
      · refine x_il1 (pc := 14) rfl rfl ?_
        refine x_ifN_lt (pc := 15) (t := 23) rfl rfl (by omega) ?_
        refine x_il1 (pc := 18) rfl rfl ?_
        refine x_const (pc := 19) (pc' := 20) (.int (nI 5)) rfl rfl rfl rfl ?_
        refine x_cmpN_le (pc := 20) (t := 25) rfl rfl (by decide) (by decide) (fun _ => ?_) (fun c => absurd c (by decide))
        refine x_al1 (pc := 25) rfl rfl ?_
        refine x_il1 (pc := 26) rfl rfl ?_
        refine x_k (pc := 27) rfl rfl rfl ⟨Nat.le_of_ble_eq_true rfl, Nat.le_of_ble_eq_true rfl, Nat.le_of_ble_eq_true rfl⟩ rfl (k_117f (I := va_up I 60 (nI 0)) (A := A) h61 ?_)
        show mq 156 30 [some (.ref 67), some (.int (nI l)), some (.int (nI 4)), none, none, none] [.int (nI 0)] (hS n u (va_up I 60 (nI 0)) A J B mk sn L xs X) _
        refine x_is1 (pc := 30) (ml' := [some (.ref 67), some (.int (nI l)), some (.int (nI 4)), some (.int (nI 0)), none, none]) rfl rfl ?_
        refine x_const (pc := 31) (pc' := 32) (.int (nI 0)) rfl rfl rfl rfl ?_
        refine x_is2 (pc := 32) (ml' := [some (.ref 67), some (.int (nI l)), some (.int (nI 4)), some (.int (nI 0)), some (.int (nI 0)), none]) rfl rfl ?_
        refine x_il1 (pc := 34) rfl rfl ?_
        refine x_ifN_ne (pc := 35) (t := 44) rfl rfl (by decide) (fun _ => ?_) (fun c => absurd c (by decide))
        refine x_il1 (pc := 44) rfl rfl ?_
        refine x_const (pc := 45) (pc' := 46) (.int (nI 1)) rfl rfl rfl rfl ?_
        refine x_cmpN_ne (pc := 46) (t := 55) rfl rfl (by decide) (by decide) (fun _ => ?_) (fun c => absurd c (by decide))
        refine x_il1 (pc := 55) rfl rfl ?_
        refine x_const (pc := 56) (pc' := 57) (.int (nI 2)) rfl rfl rfl rfl ?_
        refine x_cmpN_ne (pc := 57) (t := 62) rfl rfl (by decide) (by decide) (fun _ => ?_) (fun c => absurd c (by decide))
        refine x_il1 (pc := 62) rfl rfl ?_
        refine x_const (pc := 63) (pc' := 64) (.int (nI 5)) rfl rfl rfl rfl ?_
        refine x_cmpN_ne (pc := 64) (t := 88) rfl rfl (by decide) (by decide) (fun _ => ?_) (fun c => absurd c (by decide))
        refine x_const (pc := 88) (pc' := 89) (.int (nI 0)) rfl rfl rfl rfl ?_
        refine x_is2 (pc := 89) (ml' := [some (.ref 67), some (.int (nI l)), some (.int (nI 4)), some (.int (nI 0)), some (.int (nI 0)), some (.int (nI 0))]) rfl rfl ?_
        refine x_il2 (pc := 91) rfl rfl ?_
        refine x_il1 (pc := 93) rfl rfl ?_
        refine x_cmpN_ge (pc := 94) (t := 138) rfl rfl (by decide) (by decide) (fun _ => ?_) (fun c => absurd c (by decide))
        refine x_il2 (pc := 138) rfl rfl ?_
        refine x_ret (pc := 140) rfl rfl ?_
        exact kk
    | 5, _, e =>
      subst e
      have ev : lgv D f bc (nI 0) (nI 0) 0 (nI 5) = -1 := lkv_5
      rw [ev] at kk
      refine x_al1 (pc := 0) rfl rfl ?_
      refine x_const (pc := 1) (pc' := 2) (.int (nI 0)) rfl rfl rfl rfl ?_
      refine p_67_0 (pc := 2) rfl rfl ?_
      refine x_il1 (pc := 5) rfl rfl ?_
      refine x_ifN_lt (pc := 6) (t := 23) rfl rfl (by omega) ?_
      refine x_il1 (pc := 9) rfl rfl ?_
      refine x_const (pc := 10) (pc' := 11) (.int (nI 3)) rfl rfl rfl rfl ?_
      refine x_cmpN_gt (pc := 11) (t := 23) rfl rfl (by omega) (by omega) (fun c11 => ?_) (fun c11 => ?_)
      · omega
      · refine x_il1 (pc := 14) rfl rfl ?_
        refine x_ifN_lt (pc := 15) (t := 23) rfl rfl (by omega) ?_
        refine x_il1 (pc := 18) rfl rfl ?_
        refine x_const (pc := 19) (pc' := 20) (.int (nI 5)) rfl rfl rfl rfl ?_
        refine x_cmpN_le (pc := 20) (t := 25) rfl rfl (by decide) (by decide) (fun _ => ?_) (fun c => absurd c (by decide))
        refine x_al1 (pc := 25) rfl rfl ?_
        refine x_il1 (pc := 26) rfl rfl ?_
        refine x_k (pc := 27) rfl rfl rfl ⟨Nat.le_of_ble_eq_true rfl, Nat.le_of_ble_eq_true rfl, Nat.le_of_ble_eq_true rfl⟩ rfl (k_117f (I := va_up I 60 (nI 0)) (A := A) h61 ?_)
        show mq 156 30 [some (.ref 67), some (.int (nI l)), some (.int (nI 5)), none, none, none] [.int (nI 0)] (hS n u (va_up I 60 (nI 0)) A J B mk sn L xs X) _
        refine x_is1 (pc := 30) (ml' := [some (.ref 67), some (.int (nI l)), some (.int (nI 5)), some (.int (nI 0)), none, none]) rfl rfl ?_
        refine x_const (pc := 31) (pc' := 32) (.int (nI 0)) rfl rfl rfl rfl ?_
        refine x_is2 (pc := 32) (ml' := [some (.ref 67), some (.int (nI l)), some (.int (nI 5)), some (.int (nI 0)), some (.int (nI 0)), none]) rfl rfl ?_
        refine x_il1 (pc := 34) rfl rfl ?_
        refine x_ifN_ne (pc := 35) (t := 44) rfl rfl (by decide) (fun _ => ?_) (fun c => absurd c (by decide))
        refine x_il1 (pc := 44) rfl rfl ?_
        refine x_const (pc := 45) (pc' := 46) (.int (nI 1)) rfl rfl rfl rfl ?_
        refine x_cmpN_ne (pc := 46) (t := 55) rfl rfl (by decide) (by decide) (fun _ => ?_) (fun c => absurd c (by decide))
        refine x_il1 (pc := 55) rfl rfl ?_
        refine x_const (pc := 56) (pc' := 57) (.int (nI 2)) rfl rfl rfl rfl ?_
        refine x_cmpN_ne (pc := 57) (t := 62) rfl rfl (by decide) (by decide) (fun _ => ?_) (fun c => absurd c (by decide))
        refine x_il1 (pc := 62) rfl rfl ?_
        refine x_const (pc := 63) (pc' := 64) (.int (nI 5)) rfl rfl rfl rfl ?_
        refine x_cmpN_ne (pc := 64) (t := 88) rfl rfl (by decide) (by decide) (fun c => absurd c (by decide)) (fun _ => ?_)
        refine x_il1 (pc := 67) rfl rfl ?_
        refine x_ifN_ne (pc := 68) (t := 75) rfl rfl (by decide) (fun c => absurd c (by decide)) (fun _ => ?_)
        refine x_const (pc := 71) (pc' := 72) (.int (-1)) rfl rfl rfl rfl ?_
        refine x_step (pc := 72) (pc' := 87) rfl rfl rfl rfl ?_
        refine x_ret (pc := 87) rfl rfl ?_
        exact kk
set_option maxRecDepth 100000 in
set_option maxHeartbeats 4000000 in
theorem k_156b {l w : Int32} (hx : l < 0 ∨ nI 4 ≤ l) {Q : mO × mHp → Prop} (kk : Q (.inl (some (.int (-1))), hS n u (va_up I 60 (nI 0)) A J B mk sn L xs X)) : mq 156 0 [some (.ref 67), some (.int l), some (.int w), none, none, none] [] (hS n u I A J B mk sn L xs X) Q := by
  refine x_al1 (pc := 0) rfl rfl ?_
  refine x_const (pc := 1) (pc' := 2) (.int (nI 0)) rfl rfl rfl rfl ?_
  refine p_67_0 (pc := 2) rfl rfl ?_
  refine x_il1 (pc := 5) rfl rfl ?_
  refine x_if_lt (pc := 6) (t := 23) rfl rfl rfl (fun c6 => ?_) (fun c6 => ?_)
  · refine x_const (pc := 23) (pc' := 24) (.int (-1)) rfl rfl rfl rfl ?_
    refine x_ret (pc := 24) rfl rfl ?_
    exact kk
  · refine x_il1 (pc := 9) rfl rfl ?_
    refine x_const (pc := 10) (pc' := 11) (.int (nI 3)) rfl rfl rfl rfl ?_
    refine x_cmp_gt (pc := 11) (t := 23) rfl rfl rfl (fun c11 => ?_) (fun c11 => ?_)
    · refine x_const (pc := 23) (pc' := 24) (.int (-1)) rfl rfl rfl rfl ?_
      refine x_ret (pc := 24) rfl rfl ?_
      exact kk
    · refine x_il1 (pc := 14) rfl rfl ?_
      refine x_if_lt (pc := 15) (t := 23) rfl rfl rfl (fun c15 => ?_) (fun c15 => ?_)
      · refine x_const (pc := 23) (pc' := 24) (.int (-1)) rfl rfl rfl rfl ?_
        refine x_ret (pc := 24) rfl rfl ?_
        exact kk
      · refine x_il1 (pc := 18) rfl rfl ?_
        refine x_const (pc := 19) (pc' := 20) (.int (nI 5)) rfl rfl rfl rfl ?_
        refine x_cmp_le (pc := 20) (t := 25) rfl rfl rfl (fun c20 => ?_) (fun c20 => ?_)
        · exact absurd hx (fun q => q.elim c6 (ngt_of (m := 3) (by decide) c11))
        · refine x_const (pc := 23) (pc' := 24) (.int (-1)) rfl rfl rfl rfl ?_
          refine x_ret (pc := 24) rfl rfl ?_
          exact kk
end S42
