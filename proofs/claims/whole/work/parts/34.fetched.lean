/-! Fetched and committed; the law's long array. -/
section S34a
variable {mi pc : Nat} {ml : mLs} {r : List Value} {Q : mO × mHp → Prop}
theorem mK_x {x : Nat} {hp : mHp} (hh : mPh tbP mi = []) (k : Q (.inr x, hp)) : mK mi pc ml r Q (.inr x, hp) := by
  show (match mfind tbP (mPo tbP mi) (mcls hp x) pc (mPh tbP mi) with
    | some t => mq mi t ml [.ref x] hp Q
    | none => mPh tbP mi = [] ∧ Q (.inr x, hp))
  rw [hh]
  exact ⟨rfl, k⟩
theorem mK_h {x ci t : Nat} {hp : mHp} (hf : mfind tbP (mPo tbP mi) ci pc (mPh tbP mi) = some t) (hc : mcls hp x = ci) (k : mq mi t ml [.ref x] hp Q) : mK mi pc ml r Q (.inr x, hp) := by
  show (match mfind tbP (mPo tbP mi) (mcls hp x) pc (mPh tbP mi) with
    | some t => mq mi t ml [.ref x] hp Q
    | none => mPh tbP mi = [] ∧ Q (.inr x, hp))
  rw [hc, hf]
  exact k
end S34a
section S34
variable {n u : Nat} {I : Nat → Int32} {A : Nat → Nat → Int32} {J : Int64} {B : Nat → Int64} {mk sn L : Nat} {xs : Nat → Int32} {X : Nat → mC} {D : Nat → Nat} {mi pc : Nat} {ml : mLs} {r : List Value} {Q : mO × mHp → Prop}
theorem x_lstB {x : Int64} {j : Int32} (hi : mPi tbP mi pc = some (.lastore, 1)) (hj : j = nI 0) (k : mq mi (pc + 1) ml r (hS n u I A J (vp_updL B 0 x) mk sn L xs X) Q) : mq mi pc ml (.long x :: .int j :: .ref 76 :: r) (hS n u I A J B mk sn L xs X) Q := by
  subst hj
  refine x_step (pc' := pc + 1) (ml' := ml) (st' := r) (hp' := hS n u I A J (vp_updL B 0 x) mk sn L xs X) hi rfl rfl ?_ k
  have e : va_up (HPf (HPl I A J B mk sn L xs) X) 76 (.inl (.long, 1, .inr (.inl (vp_updL B 0 x)))) = HPf (HPl I A J (vp_updL B 0 x) mk sn L xs) X := HPf_set _ _ _ _ (by show 76 < 77; decide)
  simp only [mstep, mlast, show HPf (HPl I A J B mk sn L xs) X 76 = .inl (.long, 1, .inr (.inl B)) from rfl]
  rw [if_pos ⟨trivial, show mIn (nI 0) 1 = true from rfl⟩]
  show some (pc + 1, ml, r, n, u, va_up (HPf (HPl I A J B mk sn L xs) X) 76 (.inl (.long, 1, .inr (.inl (vp_updL B 0 x))))) = some (pc + 1, ml, r, n, u, HPf (HPl I A J (vp_updL B 0 x) mk sn L xs) X)
  rw [e]
theorem x_laldB {j : Int32} (hi : mPi tbP mi pc = some (.laload, 1)) (hj : j = nI 0) (k : mq mi (pc + 1) ml (.long (B 0) :: r) (hS n u I A J B mk sn L xs X) Q) : mq mi pc ml (.int j :: .ref 76 :: r) (hS n u I A J B mk sn L xs X) Q := by
  subst hj
  exact x_step (pc' := pc + 1) (ml' := ml) (hp' := hS n u I A J B mk sn L xs X) hi rfl rfl rfl k
end S34
section S34
variable {n u : Nat} {I : Nat → Int32} {A : Nat → Nat → Int32} {J : Int64} {B : Nat → Int64} {mk sn L : Nat} {xs : Nat → Int32} {X : Nat → mC} {D : Nat → Nat}
set_option maxRecDepth 100000 in
set_option maxHeartbeats 4000000 in
theorem k_60 (h0 : I 0 = nI 1) {Q : mO × mHp → Prop} (kk : Q (.inl none, hS n u I A J B mk sn L xs X)) : mq 60 0 [some (.ref 1)] [] (hS n u I A J B mk sn L xs X) Q := by
  refine x_al1 (pc := 0) rfl rfl ?_
  refine g_1_0 (pc := 1) rfl rfl ?_
  refine g_2_1 (pc := 4) (v := nI 1) rfl rfl h0 ?_
  refine x_ifN_ne (pc := 7) (t := 21) rfl rfl (by decide) (fun _ => ?_) (fun c => absurd c (by decide))
  refine x_ret (pc := 21) rfl rfl ?_
  exact kk
set_option maxRecDepth 100000 in
set_option maxHeartbeats 4000000 in
theorem k_60x (h0 : I 0 = nI 0) (hn : 77 ≤ n ∧ n < 10000) (hu : u + 6 < 1000000) {Q : mO × mHp → Prop} (kk : Q (.inr n, hS (n + 1) (u + 6) I A J B mk sn L xs (va_up X n (.inr (9, []))))) : mq 60 0 [some (.ref 1)] [] (hS n u I A J B mk sn L xs X) Q := by
  refine x_al1 (pc := 0) rfl rfl ?_
  refine g_1_0 (pc := 1) rfl rfl ?_
  refine g_2_1 (pc := 4) (v := nI 0) rfl rfl h0 ?_
  refine x_ifN_ne (pc := 7) (t := 21) rfl rfl (by decide) (fun c => absurd c (by decide)) (fun _ => ?_)
  refine x_thr (pc := 10) rfl rfl hn hu rfl ⟨Nat.le_of_ble_eq_true rfl, Nat.le_of_ble_eq_true rfl⟩ ?_
  exact kk
set_option maxRecDepth 100000 in
set_option maxHeartbeats 4000000 in
theorem k_83_0 {k fn : Nat} (h16 : I 16 = nI fn) (hf : fn ≤ 8) (hk : k < fn) {Q : mO × mHp → Prop} (kk : Q (.inl (some (.int (A 5 k))), hS n u I A J B mk sn L xs X)) : mq 83 0 [some (.ref 1), some (.int (nI k)), some (.int (nI 0))] [] (hS n u I A J B mk sn L xs X) Q := by
  refine x_il1 (pc := 0) rfl rfl ?_
  refine x_ifN_lt (pc := 1) (t := 24) rfl rfl (by omega) ?_
  refine x_il1 (pc := 4) rfl rfl ?_
  refine x_al1 (pc := 5) rfl rfl ?_
  refine g_1_4 (pc := 6) rfl rfl ?_
  refine g_34_5 (pc := 9) (v := nI fn) rfl rfl h16 ?_
  refine x_cmpN_ge (pc := 12) (t := 24) rfl rfl (by omega) (by omega) (fun c12 => ?_) (fun c12 => ?_)
  · omega
  · refine x_il1 (pc := 15) rfl rfl ?_
    refine x_ifN_lt (pc := 16) (t := 24) rfl rfl (by omega) ?_
    refine x_il1 (pc := 19) rfl rfl ?_
    refine x_const (pc := 20) (pc' := 21) (.int (nI 4)) rfl rfl rfl rfl ?_
    refine x_cmpN_le (pc := 21) (t := 34) rfl rfl (by omega) (by omega) (fun c21 => ?_) (fun c21 => ?_)
    · refine x_il1 (pc := 34) rfl rfl ?_
      refine x_step (pc := 35) (pc' := 64) rfl rfl rfl rfl ?_
      refine x_al1 (pc := 64) rfl rfl ?_
      refine g_1_4 (pc := 65) rfl rfl ?_
      refine g_34_0 (pc := 68) rfl rfl ?_
      refine x_il1 (pc := 71) rfl rfl ?_
      refine al_35 (pc := 72) (q := k) (v := (A 5) k) rfl rfl (by omega) rfl ?_
      refine x_ret (pc := 73) rfl rfl ?_
      exact kk
    · omega
set_option maxRecDepth 100000 in
set_option maxHeartbeats 4000000 in
theorem k_83_1 {k fn : Nat} (h16 : I 16 = nI fn) (hf : fn ≤ 8) (hk : k < fn) {Q : mO × mHp → Prop} (kk : Q (.inl (some (.int (A 6 k))), hS n u I A J B mk sn L xs X)) : mq 83 0 [some (.ref 1), some (.int (nI k)), some (.int (nI 1))] [] (hS n u I A J B mk sn L xs X) Q := by
  refine x_il1 (pc := 0) rfl rfl ?_
  refine x_ifN_lt (pc := 1) (t := 24) rfl rfl (by omega) ?_
  refine x_il1 (pc := 4) rfl rfl ?_
  refine x_al1 (pc := 5) rfl rfl ?_
  refine g_1_4 (pc := 6) rfl rfl ?_
  refine g_34_5 (pc := 9) (v := nI fn) rfl rfl h16 ?_
  refine x_cmpN_ge (pc := 12) (t := 24) rfl rfl (by omega) (by omega) (fun c12 => ?_) (fun c12 => ?_)
  · omega
  · refine x_il1 (pc := 15) rfl rfl ?_
    refine x_ifN_lt (pc := 16) (t := 24) rfl rfl (by omega) ?_
    refine x_il1 (pc := 19) rfl rfl ?_
    refine x_const (pc := 20) (pc' := 21) (.int (nI 4)) rfl rfl rfl rfl ?_
    refine x_cmpN_le (pc := 21) (t := 34) rfl rfl (by omega) (by omega) (fun c21 => ?_) (fun c21 => ?_)
    · refine x_il1 (pc := 34) rfl rfl ?_
      refine x_step (pc := 35) (pc' := 74) rfl rfl rfl rfl ?_
      refine x_al1 (pc := 74) rfl rfl ?_
      refine g_1_4 (pc := 75) rfl rfl ?_
      refine g_34_1 (pc := 78) rfl rfl ?_
      refine x_il1 (pc := 81) rfl rfl ?_
      refine al_36 (pc := 82) (q := k) (v := (A 6) k) rfl rfl (by omega) rfl ?_
      refine x_ret (pc := 83) rfl rfl ?_
      exact kk
    · omega
set_option maxRecDepth 100000 in
set_option maxHeartbeats 4000000 in
theorem k_83_2 {k fn : Nat} (h16 : I 16 = nI fn) (hf : fn ≤ 8) (hk : k < fn) {Q : mO × mHp → Prop} (kk : Q (.inl (some (.int (A 7 k))), hS n u I A J B mk sn L xs X)) : mq 83 0 [some (.ref 1), some (.int (nI k)), some (.int (nI 2))] [] (hS n u I A J B mk sn L xs X) Q := by
  refine x_il1 (pc := 0) rfl rfl ?_
  refine x_ifN_lt (pc := 1) (t := 24) rfl rfl (by omega) ?_
  refine x_il1 (pc := 4) rfl rfl ?_
  refine x_al1 (pc := 5) rfl rfl ?_
  refine g_1_4 (pc := 6) rfl rfl ?_
  refine g_34_5 (pc := 9) (v := nI fn) rfl rfl h16 ?_
  refine x_cmpN_ge (pc := 12) (t := 24) rfl rfl (by omega) (by omega) (fun c12 => ?_) (fun c12 => ?_)
  · omega
  · refine x_il1 (pc := 15) rfl rfl ?_
    refine x_ifN_lt (pc := 16) (t := 24) rfl rfl (by omega) ?_
    refine x_il1 (pc := 19) rfl rfl ?_
    refine x_const (pc := 20) (pc' := 21) (.int (nI 4)) rfl rfl rfl rfl ?_
    refine x_cmpN_le (pc := 21) (t := 34) rfl rfl (by omega) (by omega) (fun c21 => ?_) (fun c21 => ?_)
    · refine x_il1 (pc := 34) rfl rfl ?_
      refine x_step (pc := 35) (pc' := 84) rfl rfl rfl rfl ?_
      refine x_al1 (pc := 84) rfl rfl ?_
      refine g_1_4 (pc := 85) rfl rfl ?_
      refine g_34_2 (pc := 88) rfl rfl ?_
      refine x_il1 (pc := 91) rfl rfl ?_
      refine al_37 (pc := 92) (q := k) (v := (A 7) k) rfl rfl (by omega) rfl ?_
      refine x_ret (pc := 93) rfl rfl ?_
      exact kk
    · omega
set_option maxRecDepth 100000 in
set_option maxHeartbeats 4000000 in
theorem k_83_3 {k fn : Nat} (h16 : I 16 = nI fn) (hf : fn ≤ 8) (hk : k < fn) {Q : mO × mHp → Prop} (kk : Q (.inl (some (.int (A 8 k))), hS n u I A J B mk sn L xs X)) : mq 83 0 [some (.ref 1), some (.int (nI k)), some (.int (nI 3))] [] (hS n u I A J B mk sn L xs X) Q := by
  refine x_il1 (pc := 0) rfl rfl ?_
  refine x_ifN_lt (pc := 1) (t := 24) rfl rfl (by omega) ?_
  refine x_il1 (pc := 4) rfl rfl ?_
  refine x_al1 (pc := 5) rfl rfl ?_
  refine g_1_4 (pc := 6) rfl rfl ?_
  refine g_34_5 (pc := 9) (v := nI fn) rfl rfl h16 ?_
  refine x_cmpN_ge (pc := 12) (t := 24) rfl rfl (by omega) (by omega) (fun c12 => ?_) (fun c12 => ?_)
  · omega
  · refine x_il1 (pc := 15) rfl rfl ?_
    refine x_ifN_lt (pc := 16) (t := 24) rfl rfl (by omega) ?_
    refine x_il1 (pc := 19) rfl rfl ?_
    refine x_const (pc := 20) (pc' := 21) (.int (nI 4)) rfl rfl rfl rfl ?_
    refine x_cmpN_le (pc := 21) (t := 34) rfl rfl (by omega) (by omega) (fun c21 => ?_) (fun c21 => ?_)
    · refine x_il1 (pc := 34) rfl rfl ?_
      refine x_step (pc := 35) (pc' := 94) rfl rfl rfl rfl ?_
      refine x_al1 (pc := 94) rfl rfl ?_
      refine g_1_4 (pc := 95) rfl rfl ?_
      refine g_34_3 (pc := 98) rfl rfl ?_
      refine x_il1 (pc := 101) rfl rfl ?_
      refine al_38 (pc := 102) (q := k) (v := (A 8) k) rfl rfl (by omega) rfl ?_
      refine x_ret (pc := 103) rfl rfl ?_
      exact kk
    · omega
set_option maxRecDepth 100000 in
set_option maxHeartbeats 4000000 in
theorem k_83_4 {k fn : Nat} (h16 : I 16 = nI fn) (hf : fn ≤ 8) (hk : k < fn) {Q : mO × mHp → Prop} (kk : Q (.inl (some (.int (A 9 k))), hS n u I A J B mk sn L xs X)) : mq 83 0 [some (.ref 1), some (.int (nI k)), some (.int (nI 4))] [] (hS n u I A J B mk sn L xs X) Q := by
  refine x_il1 (pc := 0) rfl rfl ?_
  refine x_ifN_lt (pc := 1) (t := 24) rfl rfl (by omega) ?_
  refine x_il1 (pc := 4) rfl rfl ?_
  refine x_al1 (pc := 5) rfl rfl ?_
  refine g_1_4 (pc := 6) rfl rfl ?_
  refine g_34_5 (pc := 9) (v := nI fn) rfl rfl h16 ?_
  refine x_cmpN_ge (pc := 12) (t := 24) rfl rfl (by omega) (by omega) (fun c12 => ?_) (fun c12 => ?_)
  · omega
  · refine x_il1 (pc := 15) rfl rfl ?_
    refine x_ifN_lt (pc := 16) (t := 24) rfl rfl (by omega) ?_
    refine x_il1 (pc := 19) rfl rfl ?_
    refine x_const (pc := 20) (pc' := 21) (.int (nI 4)) rfl rfl rfl rfl ?_
    refine x_cmpN_le (pc := 21) (t := 34) rfl rfl (by omega) (by omega) (fun c21 => ?_) (fun c21 => ?_)
    · refine x_il1 (pc := 34) rfl rfl ?_
      refine x_step (pc := 35) (pc' := 104) rfl rfl rfl rfl ?_
      refine x_al1 (pc := 104) rfl rfl ?_
      refine g_1_4 (pc := 105) rfl rfl ?_
      refine g_34_4 (pc := 108) rfl rfl ?_
      refine x_il1 (pc := 111) rfl rfl ?_
      refine al_39 (pc := 112) (q := k) (v := (A 9) k) rfl rfl (by omega) rfl ?_
      refine x_ret (pc := 113) rfl rfl ?_
      exact kk
    · omega
set_option maxRecDepth 100000 in
set_option maxHeartbeats 4000000 in
theorem k_83x {fn : Nat} {a w : Int32} (h16 : I 16 = nI fn) (hf : fn ≤ 8) (hx : (a < 0 ∨ nI fn ≤ a) ∨ (w < 0 ∨ nI 5 ≤ w)) (hn : 77 ≤ n ∧ n < 10000) (hu : u + 6 < 1000000) {Q : mO × mHp → Prop} (kk : Q (.inr n, hS (n + 1) (u + 6) I A J B mk sn L xs (va_up X n (.inr (12, []))))) : mq 83 0 [some (.ref 1), some (.int a), some (.int w)] [] (hS n u I A J B mk sn L xs X) Q := by
  refine x_il1 (pc := 0) rfl rfl ?_
  refine x_if_lt (pc := 1) (t := 24) rfl rfl rfl (fun c1 => ?_) (fun c1 => ?_)
  · refine x_thr (pc := 24) rfl rfl hn hu rfl ⟨Nat.le_of_ble_eq_true rfl, Nat.le_of_ble_eq_true rfl⟩ ?_
    exact kk
  · refine x_il1 (pc := 4) rfl rfl ?_
    refine x_al1 (pc := 5) rfl rfl ?_
    refine g_1_4 (pc := 6) rfl rfl ?_
    refine g_34_5 (pc := 9) (v := nI fn) rfl rfl h16 ?_
    refine x_cmp_ge (pc := 12) (t := 24) rfl rfl rfl (fun c12 => ?_) (fun c12 => ?_)
    · refine x_thr (pc := 24) rfl rfl hn hu rfl ⟨Nat.le_of_ble_eq_true rfl, Nat.le_of_ble_eq_true rfl⟩ ?_
      exact kk
    · refine x_il1 (pc := 15) rfl rfl ?_
      refine x_if_lt (pc := 16) (t := 24) rfl rfl rfl (fun c16 => ?_) (fun c16 => ?_)
      · refine x_thr (pc := 24) rfl rfl hn hu rfl ⟨Nat.le_of_ble_eq_true rfl, Nat.le_of_ble_eq_true rfl⟩ ?_
        exact kk
      · refine x_il1 (pc := 19) rfl rfl ?_
        refine x_const (pc := 20) (pc' := 21) (.int (nI 4)) rfl rfl rfl rfl ?_
        refine x_cmp_le (pc := 21) (t := 34) rfl rfl rfl (fun c21 => ?_) (fun c21 => ?_)
        · exact absurd hx (fun q => q.elim (fun q => q.elim c1 c12) (fun q => q.elim c16 (fun q => absurd (ngt_of (m := 4) (by decide) (Int32.not_lt.mpr c21)) (fun z => z q))))
        · refine x_thr (pc := 24) rfl rfl hn hu rfl ⟨Nat.le_of_ble_eq_true rfl, Nat.le_of_ble_eq_true rfl⟩ ?_
          exact kk
set_option maxRecDepth 100000 in
set_option maxHeartbeats 4000000 in
theorem k_141 {k w fn : Nat} (h69 : I 69 = nI fn) (hf : fn ≤ 8) (hk : k < fn) (hw : w < 5) {Q : mO × mHp → Prop} (kk : Q (.inl (some (.int (A 57 (5 * k + w)))), hS n u (va_up I 60 (nI 0)) A J B mk sn L xs X)) : mq 141 0 [some (.ref 67), some (.int (nI k)), some (.int (nI w))] [] (hS n u I A J B mk sn L xs X) Q := by
  refine x_al1 (pc := 0) rfl rfl ?_
  refine x_il1 (pc := 1) rfl rfl ?_
  refine x_ifN_lt (pc := 2) (t := 22) rfl rfl (by omega) ?_
  refine x_il1 (pc := 5) rfl rfl ?_
  refine x_al1 (pc := 6) rfl rfl ?_
  refine g_67_17 (pc := 7) (v := nI fn) rfl rfl h69 ?_
  refine x_cmpN_ge (pc := 10) (t := 22) rfl rfl (by omega) (by omega) (fun c10 => ?_) (fun c10 => ?_)
  · omega
  · refine x_il1 (pc := 13) rfl rfl ?_
    refine x_ifN_lt (pc := 14) (t := 22) rfl rfl (by omega) ?_
    refine x_il1 (pc := 17) rfl rfl ?_
    refine x_const (pc := 18) (pc' := 19) (.int (nI 4)) rfl rfl rfl rfl ?_
    refine x_cmpN_le (pc := 19) (t := 26) rfl rfl (by omega) (by omega) (fun c19 => ?_) (fun c19 => ?_)
    · refine x_const (pc := 26) (pc' := 27) (.int (nI 0)) rfl rfl rfl rfl ?_
      refine x_k (pc := 27) rfl rfl rfl ⟨Nat.le_of_ble_eq_true rfl, Nat.le_of_ble_eq_true rfl, Nat.le_of_ble_eq_true rfl⟩ rfl (k_114 (w := 0) (by decide) ?_)
      show mq 141 30 [some (.ref 67), some (.int (nI k)), some (.int (nI w))] [.int (nI 0)] (hS n u (va_up I 60 (nI 0)) A J B mk sn L xs X) _
      refine x_ifN_eq (pc := 30) (t := 37) rfl rfl (by decide) (fun _ => ?_) (fun c => absurd c (by decide))
      refine x_al1 (pc := 37) rfl rfl ?_
      refine g_67_16 (pc := 38) rfl rfl ?_
      refine x_const (pc := 41) (pc' := 42) (.int (nI 5)) rfl rfl rfl rfl ?_
      refine x_il1 (pc := 42) rfl rfl ?_
      refine x_imulN (pc := 43) (c := 5 * k) rfl rfl ?_
      refine x_il1 (pc := 44) rfl rfl ?_
      refine x_iaddN (pc := 45) (c := (5 * k) + w) rfl rfl ?_
      refine al_75 (pc := 46) (q := 5 * k + w) (v := (A 57) (5 * k + w)) rfl rfl (by omega) rfl ?_
      refine x_ret (pc := 47) rfl rfl ?_
      exact kk
    · omega
set_option maxRecDepth 100000 in
set_option maxHeartbeats 4000000 in
theorem k_141x {fn : Nat} {a w : Int32} (h69 : I 69 = nI fn) (hf : fn ≤ 8) (hx : (a < 0 ∨ nI fn ≤ a) ∨ (w < 0 ∨ nI 5 ≤ w)) {Q : mO × mHp → Prop} (kk : Q (.inl (some (.int (nI 0))), hS n u (va_up I 60 (nI 1)) A J B mk sn L xs X)) : mq 141 0 [some (.ref 67), some (.int a), some (.int w)] [] (hS n u I A J B mk sn L xs X) Q := by
  refine x_al1 (pc := 0) rfl rfl ?_
  refine x_il1 (pc := 1) rfl rfl ?_
  refine x_if_lt (pc := 2) (t := 22) rfl rfl rfl (fun c2 => ?_) (fun c2 => ?_)
  · refine x_const (pc := 22) (pc' := 23) (.int (nI 1)) rfl rfl rfl rfl ?_
    refine x_step (pc := 23) (pc' := 27) rfl rfl rfl rfl ?_
    refine x_k (pc := 27) rfl rfl rfl ⟨Nat.le_of_ble_eq_true rfl, Nat.le_of_ble_eq_true rfl, Nat.le_of_ble_eq_true rfl⟩ rfl (k_114 (w := 1) (by decide) ?_)
    show mq 141 30 [some (.ref 67), some (.int a), some (.int w)] [.int (nI 1)] (hS n u (va_up I 60 (nI 1)) A J B mk sn L xs X) _
    refine x_ifN_eq (pc := 30) (t := 37) rfl rfl (by decide) (fun c => absurd c (by decide)) (fun _ => ?_)
    refine x_const (pc := 33) (pc' := 34) (.int (nI 0)) rfl rfl rfl rfl ?_
    refine x_step (pc := 34) (pc' := 47) rfl rfl rfl rfl ?_
    refine x_ret (pc := 47) rfl rfl ?_
    exact kk
  · refine x_il1 (pc := 5) rfl rfl ?_
    refine x_al1 (pc := 6) rfl rfl ?_
    refine g_67_17 (pc := 7) (v := nI fn) rfl rfl h69 ?_
    refine x_cmp_ge (pc := 10) (t := 22) rfl rfl rfl (fun c10 => ?_) (fun c10 => ?_)
    · refine x_const (pc := 22) (pc' := 23) (.int (nI 1)) rfl rfl rfl rfl ?_
      refine x_step (pc := 23) (pc' := 27) rfl rfl rfl rfl ?_
      refine x_k (pc := 27) rfl rfl rfl ⟨Nat.le_of_ble_eq_true rfl, Nat.le_of_ble_eq_true rfl, Nat.le_of_ble_eq_true rfl⟩ rfl (k_114 (w := 1) (by decide) ?_)
      show mq 141 30 [some (.ref 67), some (.int a), some (.int w)] [.int (nI 1)] (hS n u (va_up I 60 (nI 1)) A J B mk sn L xs X) _
      refine x_ifN_eq (pc := 30) (t := 37) rfl rfl (by decide) (fun c => absurd c (by decide)) (fun _ => ?_)
      refine x_const (pc := 33) (pc' := 34) (.int (nI 0)) rfl rfl rfl rfl ?_
      refine x_step (pc := 34) (pc' := 47) rfl rfl rfl rfl ?_
      refine x_ret (pc := 47) rfl rfl ?_
      exact kk
    · refine x_il1 (pc := 13) rfl rfl ?_
      refine x_if_lt (pc := 14) (t := 22) rfl rfl rfl (fun c14 => ?_) (fun c14 => ?_)
      · refine x_const (pc := 22) (pc' := 23) (.int (nI 1)) rfl rfl rfl rfl ?_
        refine x_step (pc := 23) (pc' := 27) rfl rfl rfl rfl ?_
        refine x_k (pc := 27) rfl rfl rfl ⟨Nat.le_of_ble_eq_true rfl, Nat.le_of_ble_eq_true rfl, Nat.le_of_ble_eq_true rfl⟩ rfl (k_114 (w := 1) (by decide) ?_)
        show mq 141 30 [some (.ref 67), some (.int a), some (.int w)] [.int (nI 1)] (hS n u (va_up I 60 (nI 1)) A J B mk sn L xs X) _
        refine x_ifN_eq (pc := 30) (t := 37) rfl rfl (by decide) (fun c => absurd c (by decide)) (fun _ => ?_)
        refine x_const (pc := 33) (pc' := 34) (.int (nI 0)) rfl rfl rfl rfl ?_
        refine x_step (pc := 34) (pc' := 47) rfl rfl rfl rfl ?_
        refine x_ret (pc := 47) rfl rfl ?_
        exact kk
      · refine x_il1 (pc := 17) rfl rfl ?_
        refine x_const (pc := 18) (pc' := 19) (.int (nI 4)) rfl rfl rfl rfl ?_
        refine x_cmp_le (pc := 19) (t := 26) rfl rfl rfl (fun c19 => ?_) (fun c19 => ?_)
        · exact absurd hx (fun q => q.elim (fun q => q.elim c2 c10) (fun q => q.elim c14 (fun q => absurd (ngt_of (m := 4) (by decide) (Int32.not_lt.mpr c19)) (fun z => z q))))
        · refine x_const (pc := 22) (pc' := 23) (.int (nI 1)) rfl rfl rfl rfl ?_
          refine x_step (pc := 23) (pc' := 27) rfl rfl rfl rfl ?_
          refine x_k (pc := 27) rfl rfl rfl ⟨Nat.le_of_ble_eq_true rfl, Nat.le_of_ble_eq_true rfl, Nat.le_of_ble_eq_true rfl⟩ rfl (k_114 (w := 1) (by decide) ?_)
          show mq 141 30 [some (.ref 67), some (.int a), some (.int w)] [.int (nI 1)] (hS n u (va_up I 60 (nI 1)) A J B mk sn L xs X) _
          refine x_ifN_eq (pc := 30) (t := 37) rfl rfl (by decide) (fun c => absurd c (by decide)) (fun _ => ?_)
          refine x_const (pc := 33) (pc' := 34) (.int (nI 0)) rfl rfl rfl rfl ?_
          refine x_step (pc := 34) (pc' := 47) rfl rfl rfl rfl ?_
          refine x_ret (pc := 47) rfl rfl ?_
          exact kk
set_option maxRecDepth 100000 in
set_option maxHeartbeats 4000000 in
theorem k_89 {g l : Nat} (hg : g < 8) (hl : l < 3) {Q : mO × mHp → Prop} (kk : Q (.inl (some (.int (nI 1))), hS n u I A J B mk sn L xs X)) : mq 89 0 [some (.int (nI g)), some (.int (nI l))] [] (hS n u I A J B mk sn L xs X) Q := by
  refine x_il1 (pc := 0) rfl rfl ?_
  refine x_ifN_lt (pc := 1) (t := 23) rfl rfl (by omega) ?_
  refine x_il1 (pc := 4) rfl rfl ?_
  refine x_const (pc := 5) (pc' := 7) (.int (nI 8)) rfl rfl rfl rfl ?_
  refine x_cmpN_ge (pc := 7) (t := 23) rfl rfl (by omega) (by omega) (fun c7 => ?_) (fun c7 => ?_)
  · omega
  · refine x_il1 (pc := 10) rfl rfl ?_
    refine x_ifN_lt (pc := 11) (t := 23) rfl rfl (by omega) ?_
    refine x_il1 (pc := 14) rfl rfl ?_
    refine x_const (pc := 15) (pc' := 16) (.int (nI 3)) rfl rfl rfl rfl ?_
    refine x_cmpN_ge (pc := 16) (t := 23) rfl rfl (by omega) (by omega) (fun c16 => ?_) (fun c16 => ?_)
    · omega
    · refine x_const (pc := 19) (pc' := 20) (.int (nI 1)) rfl rfl rfl rfl ?_
      refine x_step (pc := 20) (pc' := 24) rfl rfl rfl rfl ?_
      refine x_ret (pc := 24) rfl rfl ?_
      exact kk
set_option maxRecDepth 100000 in
set_option maxHeartbeats 4000000 in
theorem k_89b {g l : Int32} (hx : (g < 0 ∨ nI 8 ≤ g) ∨ (l < 0 ∨ nI 3 ≤ l)) {Q : mO × mHp → Prop} (kk : Q (.inl (some (.int (nI 0))), hS n u I A J B mk sn L xs X)) : mq 89 0 [some (.int g), some (.int l)] [] (hS n u I A J B mk sn L xs X) Q := by
  refine x_il1 (pc := 0) rfl rfl ?_
  refine x_if_lt (pc := 1) (t := 23) rfl rfl rfl (fun c1 => ?_) (fun c1 => ?_)
  · refine x_const (pc := 23) (pc' := 24) (.int (nI 0)) rfl rfl rfl rfl ?_
    refine x_ret (pc := 24) rfl rfl ?_
    exact kk
  · refine x_il1 (pc := 4) rfl rfl ?_
    refine x_const (pc := 5) (pc' := 7) (.int (nI 8)) rfl rfl rfl rfl ?_
    refine x_cmp_ge (pc := 7) (t := 23) rfl rfl rfl (fun c7 => ?_) (fun c7 => ?_)
    · refine x_const (pc := 23) (pc' := 24) (.int (nI 0)) rfl rfl rfl rfl ?_
      refine x_ret (pc := 24) rfl rfl ?_
      exact kk
    · refine x_il1 (pc := 10) rfl rfl ?_
      refine x_if_lt (pc := 11) (t := 23) rfl rfl rfl (fun c11 => ?_) (fun c11 => ?_)
      · refine x_const (pc := 23) (pc' := 24) (.int (nI 0)) rfl rfl rfl rfl ?_
        refine x_ret (pc := 24) rfl rfl ?_
        exact kk
      · refine x_il1 (pc := 14) rfl rfl ?_
        refine x_const (pc := 15) (pc' := 16) (.int (nI 3)) rfl rfl rfl rfl ?_
        refine x_cmp_ge (pc := 16) (t := 23) rfl rfl rfl (fun c16 => ?_) (fun c16 => ?_)
        · refine x_const (pc := 23) (pc' := 24) (.int (nI 0)) rfl rfl rfl rfl ?_
          refine x_ret (pc := 24) rfl rfl ?_
          exact kk
        · exact absurd hx (fun q => q.elim (fun q => q.elim c1 c7) (fun q => q.elim c11 c16))
set_option maxRecDepth 100000 in
set_option maxHeartbeats 4000000 in
theorem k_91 {g l : Nat} (h0 : I 0 = nI 1) (hg : g < 8) (hl : l < 3) {Q : mO × mHp → Prop} (kk : Q (.inl (some (.int (A 1 (4 * g + l)))), hS n u I A J B mk sn L xs X)) : mq 91 0 [some (.ref 1), some (.int (nI g)), some (.int (nI l))] [] (hS n u I A J B mk sn L xs X) Q := by
  refine x_al1 (pc := 0) rfl rfl ?_
  refine x_k (pc := 1) rfl rfl rfl ⟨Nat.le_of_ble_eq_true rfl, Nat.le_of_ble_eq_true rfl, Nat.le_of_ble_eq_true rfl⟩ rfl (k_60 h0 ?_)
  show mq 91 4 [some (.ref 1), some (.int (nI g)), some (.int (nI l))] [] (hS n u I A J B mk sn L xs X) _
  refine x_il1 (pc := 4) rfl rfl ?_
  refine x_il1 (pc := 5) rfl rfl ?_
  refine x_k (pc := 6) rfl rfl rfl ⟨Nat.le_of_ble_eq_true rfl, Nat.le_of_ble_eq_true rfl, Nat.le_of_ble_eq_true rfl⟩ rfl (k_89 hg hl ?_)
  show mq 91 9 [some (.ref 1), some (.int (nI g)), some (.int (nI l))] [.int (nI 1)] (hS n u I A J B mk sn L xs X) _
  refine x_ifN_eq (pc := 9) (t := 25) rfl rfl (by decide) (fun c => absurd c (by decide)) (fun _ => ?_)
  refine x_al1 (pc := 12) rfl rfl ?_
  refine g_1_3 (pc := 13) rfl rfl ?_
  refine x_const (pc := 16) (pc' := 17) (.int (nI 4)) rfl rfl rfl rfl ?_
  refine x_il1 (pc := 17) rfl rfl ?_
  refine x_imulN (pc := 18) (c := 4 * g) rfl rfl ?_
  refine x_il1 (pc := 19) rfl rfl ?_
  refine x_iaddN (pc := 20) (c := (4 * g) + l) rfl rfl ?_
  refine al_33 (pc := 21) (q := 4 * g + l) (v := (A 1) (4 * g + l)) rfl rfl (by omega) rfl ?_
  refine x_step (pc := 22) (pc' := 26) rfl rfl rfl rfl ?_
  refine x_ret (pc := 26) rfl rfl ?_
  exact kk
set_option maxRecDepth 100000 in
set_option maxHeartbeats 4000000 in
theorem k_91b {g l : Int32} (h0 : I 0 = nI 1) (hx : (g < 0 ∨ nI 8 ≤ g) ∨ (l < 0 ∨ nI 3 ≤ l)) {Q : mO × mHp → Prop} (kk : Q (.inl (some (.int (-1))), hS n u I A J B mk sn L xs X)) : mq 91 0 [some (.ref 1), some (.int g), some (.int l)] [] (hS n u I A J B mk sn L xs X) Q := by
  refine x_al1 (pc := 0) rfl rfl ?_
  refine x_k (pc := 1) rfl rfl rfl ⟨Nat.le_of_ble_eq_true rfl, Nat.le_of_ble_eq_true rfl, Nat.le_of_ble_eq_true rfl⟩ rfl (k_60 h0 ?_)
  show mq 91 4 [some (.ref 1), some (.int g), some (.int l)] [] (hS n u I A J B mk sn L xs X) _
  refine x_il1 (pc := 4) rfl rfl ?_
  refine x_il1 (pc := 5) rfl rfl ?_
  refine x_k (pc := 6) rfl rfl rfl ⟨Nat.le_of_ble_eq_true rfl, Nat.le_of_ble_eq_true rfl, Nat.le_of_ble_eq_true rfl⟩ rfl (k_89b hx ?_)
  show mq 91 9 [some (.ref 1), some (.int g), some (.int l)] [.int (nI 0)] (hS n u I A J B mk sn L xs X) _
  refine x_ifN_eq (pc := 9) (t := 25) rfl rfl (by decide) (fun _ => ?_) (fun c => absurd c (by decide))
  refine x_const (pc := 25) (pc' := 26) (.int (-1)) rfl rfl rfl rfl ?_
  refine x_ret (pc := 26) rfl rfl ?_
  exact kk
set_option maxRecDepth 100000 in
set_option maxHeartbeats 4000000 in
theorem k_91x {g l : Int32} (h0 : I 0 = nI 0) (hn : 77 ≤ n ∧ n < 10000) (hu : u + 6 < 1000000) {Q : mO × mHp → Prop} (kk : Q (.inr n, hS (n + 1) (u + 6) I A J B mk sn L xs (va_up X n (.inr (9, []))))) : mq 91 0 [some (.ref 1), some (.int g), some (.int l)] [] (hS n u I A J B mk sn L xs X) Q := by
  refine x_al1 (pc := 0) rfl rfl ?_
  refine x_k (pc := 1) rfl rfl rfl ⟨Nat.le_of_ble_eq_true rfl, Nat.le_of_ble_eq_true rfl, Nat.le_of_ble_eq_true rfl⟩ rfl (k_60x h0 hn hu (mK_x rfl ?_))
  exact kk
set_option maxRecDepth 100000 in
set_option maxHeartbeats 4000000 in
theorem k_144 {g l : Nat} (hg : g < 8) (hl : l < 3) {Q : mO × mHp → Prop} (kk : Q (.inl (some (.int (nI 1))), hS n u I A J B mk sn L xs X)) : mq 144 0 [some (.int (nI g)), some (.int (nI l))] [] (hS n u I A J B mk sn L xs X) Q := by
  refine x_il1 (pc := 0) rfl rfl ?_
  refine x_ifN_lt (pc := 1) (t := 23) rfl rfl (by omega) ?_
  refine x_il1 (pc := 4) rfl rfl ?_
  refine x_const (pc := 5) (pc' := 7) (.int (nI 8)) rfl rfl rfl rfl ?_
  refine x_cmpN_ge (pc := 7) (t := 23) rfl rfl (by omega) (by omega) (fun c7 => ?_) (fun c7 => ?_)
  · omega
  · refine x_il1 (pc := 10) rfl rfl ?_
    refine x_ifN_lt (pc := 11) (t := 23) rfl rfl (by omega) ?_
    refine x_il1 (pc := 14) rfl rfl ?_
    refine x_const (pc := 15) (pc' := 16) (.int (nI 3)) rfl rfl rfl rfl ?_
    refine x_cmpN_ge (pc := 16) (t := 23) rfl rfl (by omega) (by omega) (fun c16 => ?_) (fun c16 => ?_)
    · omega
    · refine x_const (pc := 19) (pc' := 20) (.int (nI 1)) rfl rfl rfl rfl ?_
      refine x_step (pc := 20) (pc' := 24) rfl rfl rfl rfl ?_
      refine x_ret (pc := 24) rfl rfl ?_
      exact kk
set_option maxRecDepth 100000 in
set_option maxHeartbeats 4000000 in
theorem k_144b {g l : Int32} (hx : (g < 0 ∨ nI 8 ≤ g) ∨ (l < 0 ∨ nI 3 ≤ l)) {Q : mO × mHp → Prop} (kk : Q (.inl (some (.int (nI 0))), hS n u I A J B mk sn L xs X)) : mq 144 0 [some (.int g), some (.int l)] [] (hS n u I A J B mk sn L xs X) Q := by
  refine x_il1 (pc := 0) rfl rfl ?_
  refine x_if_lt (pc := 1) (t := 23) rfl rfl rfl (fun c1 => ?_) (fun c1 => ?_)
  · refine x_const (pc := 23) (pc' := 24) (.int (nI 0)) rfl rfl rfl rfl ?_
    refine x_ret (pc := 24) rfl rfl ?_
    exact kk
  · refine x_il1 (pc := 4) rfl rfl ?_
    refine x_const (pc := 5) (pc' := 7) (.int (nI 8)) rfl rfl rfl rfl ?_
    refine x_cmp_ge (pc := 7) (t := 23) rfl rfl rfl (fun c7 => ?_) (fun c7 => ?_)
    · refine x_const (pc := 23) (pc' := 24) (.int (nI 0)) rfl rfl rfl rfl ?_
      refine x_ret (pc := 24) rfl rfl ?_
      exact kk
    · refine x_il1 (pc := 10) rfl rfl ?_
      refine x_if_lt (pc := 11) (t := 23) rfl rfl rfl (fun c11 => ?_) (fun c11 => ?_)
      · refine x_const (pc := 23) (pc' := 24) (.int (nI 0)) rfl rfl rfl rfl ?_
        refine x_ret (pc := 24) rfl rfl ?_
        exact kk
      · refine x_il1 (pc := 14) rfl rfl ?_
        refine x_const (pc := 15) (pc' := 16) (.int (nI 3)) rfl rfl rfl rfl ?_
        refine x_cmp_ge (pc := 16) (t := 23) rfl rfl rfl (fun c16 => ?_) (fun c16 => ?_)
        · refine x_const (pc := 23) (pc' := 24) (.int (nI 0)) rfl rfl rfl rfl ?_
          refine x_ret (pc := 24) rfl rfl ?_
          exact kk
        · exact absurd hx (fun q => q.elim (fun q => q.elim c1 c7) (fun q => q.elim c11 c16))
set_option maxRecDepth 100000 in
set_option maxHeartbeats 4000000 in
theorem k_145 {g l : Nat} (h61 : I 61 = nI 0) (hg : g < 8) (hl : l < 3) {Q : mO × mHp → Prop} (kk : Q (.inl (some (.int (A 56 (4 * g + l) - 1))), hS n u (va_up I 60 (nI 0)) A J B mk sn L xs X)) : mq 145 0 [some (.ref 67), some (.int (nI g)), some (.int (nI l))] [] (hS n u I A J B mk sn L xs X) Q := by
  refine x_al1 (pc := 0) rfl rfl ?_
  refine x_al1 (pc := 1) rfl rfl ?_
  refine g_67_2 (pc := 2) (v := nI 0) rfl rfl h61 ?_
  refine x_ifN_eq (pc := 5) (t := 12) rfl rfl (by decide) (fun _ => ?_) (fun c => absurd c (by decide))
  refine x_const (pc := 12) (pc' := 13) (.int (nI 0)) rfl rfl rfl rfl ?_
  refine x_k (pc := 13) rfl rfl rfl ⟨Nat.le_of_ble_eq_true rfl, Nat.le_of_ble_eq_true rfl, Nat.le_of_ble_eq_true rfl⟩ rfl (k_114 (w := 0) (by decide) ?_)
  show mq 145 16 [some (.ref 67), some (.int (nI g)), some (.int (nI l))] [.int (nI 0)] (hS n u (va_up I 60 (nI 0)) A J B mk sn L xs X) _
  refine x_ifN_eq (pc := 16) (t := 23) rfl rfl (by decide) (fun _ => ?_) (fun c => absurd c (by decide))
  refine x_il1 (pc := 23) rfl rfl ?_
  refine x_il1 (pc := 24) rfl rfl ?_
  refine x_k (pc := 25) rfl rfl rfl ⟨Nat.le_of_ble_eq_true rfl, Nat.le_of_ble_eq_true rfl, Nat.le_of_ble_eq_true rfl⟩ rfl (k_144 hg hl ?_)
  show mq 145 28 [some (.ref 67), some (.int (nI g)), some (.int (nI l))] [.int (nI 1)] (hS n u (va_up I 60 (nI 0)) A J B mk sn L xs X) _
  refine x_ifN_eq (pc := 28) (t := 46) rfl rfl (by decide) (fun c => absurd c (by decide)) (fun _ => ?_)
  refine x_al1 (pc := 31) rfl rfl ?_
  refine g_67_15 (pc := 32) rfl rfl ?_
  refine x_const (pc := 35) (pc' := 36) (.int (nI 4)) rfl rfl rfl rfl ?_
  refine x_il1 (pc := 36) rfl rfl ?_
  refine x_imulN (pc := 37) (c := 4 * g) rfl rfl ?_
  refine x_il1 (pc := 38) rfl rfl ?_
  refine x_iaddN (pc := 39) (c := (4 * g) + l) rfl rfl ?_
  refine al_74 (pc := 40) (q := 4 * g + l) (v := (A 56) (4 * g + l)) rfl rfl (by omega) rfl ?_
  refine x_const (pc := 41) (pc' := 42) (.int (nI 1)) rfl rfl rfl rfl ?_
  refine x_isub (pc := 42) rfl rfl ?_
  refine x_step (pc := 43) (pc' := 47) rfl rfl rfl rfl ?_
  refine x_ret (pc := 47) rfl rfl ?_
  exact kk
set_option maxRecDepth 100000 in
set_option maxHeartbeats 4000000 in
theorem k_145b {g l : Int32} (h61 : I 61 = nI 0) (hx : (g < 0 ∨ nI 8 ≤ g) ∨ (l < 0 ∨ nI 3 ≤ l)) {Q : mO × mHp → Prop} (kk : Q (.inl (some (.int (-1))), hS n u (va_up I 60 (nI 0)) A J B mk sn L xs X)) : mq 145 0 [some (.ref 67), some (.int g), some (.int l)] [] (hS n u I A J B mk sn L xs X) Q := by
  refine x_al1 (pc := 0) rfl rfl ?_
  refine x_al1 (pc := 1) rfl rfl ?_
  refine g_67_2 (pc := 2) (v := nI 0) rfl rfl h61 ?_
  refine x_ifN_eq (pc := 5) (t := 12) rfl rfl (by decide) (fun _ => ?_) (fun c => absurd c (by decide))
  refine x_const (pc := 12) (pc' := 13) (.int (nI 0)) rfl rfl rfl rfl ?_
  refine x_k (pc := 13) rfl rfl rfl ⟨Nat.le_of_ble_eq_true rfl, Nat.le_of_ble_eq_true rfl, Nat.le_of_ble_eq_true rfl⟩ rfl (k_114 (w := 0) (by decide) ?_)
  show mq 145 16 [some (.ref 67), some (.int g), some (.int l)] [.int (nI 0)] (hS n u (va_up I 60 (nI 0)) A J B mk sn L xs X) _
  refine x_ifN_eq (pc := 16) (t := 23) rfl rfl (by decide) (fun _ => ?_) (fun c => absurd c (by decide))
  refine x_il1 (pc := 23) rfl rfl ?_
  refine x_il1 (pc := 24) rfl rfl ?_
  refine x_k (pc := 25) rfl rfl rfl ⟨Nat.le_of_ble_eq_true rfl, Nat.le_of_ble_eq_true rfl, Nat.le_of_ble_eq_true rfl⟩ rfl (k_144b hx ?_)
  show mq 145 28 [some (.ref 67), some (.int g), some (.int l)] [.int (nI 0)] (hS n u (va_up I 60 (nI 0)) A J B mk sn L xs X) _
  refine x_ifN_eq (pc := 28) (t := 46) rfl rfl (by decide) (fun _ => ?_) (fun c => absurd c (by decide))
  refine x_const (pc := 46) (pc' := 47) (.int (-1)) rfl rfl rfl rfl ?_
  refine x_ret (pc := 47) rfl rfl ?_
  exact kk
set_option maxRecDepth 100000 in
set_option maxHeartbeats 4000000 in
theorem k_145x {g l : Int32} (h61 : I 61 = nI 1) {Q : mO × mHp → Prop} (kk : Q (.inl (some (.int (nI 0))), hS n u (va_up I 60 (nI 1)) A J B mk sn L xs X)) : mq 145 0 [some (.ref 67), some (.int g), some (.int l)] [] (hS n u I A J B mk sn L xs X) Q := by
  refine x_al1 (pc := 0) rfl rfl ?_
  refine x_al1 (pc := 1) rfl rfl ?_
  refine g_67_2 (pc := 2) (v := nI 1) rfl rfl h61 ?_
  refine x_ifN_eq (pc := 5) (t := 12) rfl rfl (by decide) (fun c => absurd c (by decide)) (fun _ => ?_)
  refine x_const (pc := 8) (pc' := 9) (.int (nI 1)) rfl rfl rfl rfl ?_
  refine x_step (pc := 9) (pc' := 13) rfl rfl rfl rfl ?_
  refine x_k (pc := 13) rfl rfl rfl ⟨Nat.le_of_ble_eq_true rfl, Nat.le_of_ble_eq_true rfl, Nat.le_of_ble_eq_true rfl⟩ rfl (k_114 (w := 1) (by decide) ?_)
  show mq 145 16 [some (.ref 67), some (.int g), some (.int l)] [.int (nI 1)] (hS n u (va_up I 60 (nI 1)) A J B mk sn L xs X) _
  refine x_ifN_eq (pc := 16) (t := 23) rfl rfl (by decide) (fun c => absurd c (by decide)) (fun _ => ?_)
  refine x_const (pc := 19) (pc' := 20) (.int (nI 0)) rfl rfl rfl rfl ?_
  refine x_step (pc := 20) (pc' := 47) rfl rfl rfl rfl ?_
  refine x_ret (pc := 47) rfl rfl ?_
  exact kk
end S34
