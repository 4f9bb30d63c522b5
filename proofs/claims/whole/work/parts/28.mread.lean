/-! The model: reading a batch. -/
theorem and1 (x : Int32) : x &&& 1 = 0 ∨ x &&& 1 = 1 := by
  have h : ∀ y : BitVec 32, y &&& 1#32 = 0#32 ∨ y &&& 1#32 = 1#32 := by
    intro y
    have h1 : (y &&& 1#32).toNat = y.toNat % 2 := by
      rw [BitVec.toNat_and]
      exact Nat.and_one_is_mod _
    rcases Nat.mod_two_eq_zero_or_one y.toNat with h2 | h2
    · exact Or.inl (BitVec.eq_of_toNat_eq (by rw [h1, h2]; rfl))
    · exact Or.inr (BitVec.eq_of_toNat_eq (by rw [h1, h2]; rfl))
  rcases h x.toBitVec with h1 | h1
  · exact Or.inl (Int32.toBitVec_inj.mp h1)
  · exact Or.inr (Int32.toBitVec_inj.mp h1)
theorem zag0 {x : Int32} (h : x &&& 1 = 0) : (x.toUInt32 >>> ((1 : Int32).toUInt32 &&& Int32.toUInt32 31)).toInt32 = uz x := by
  unfold uz
  rw [h, show (-(0 : Int32)) = 0 from rfl, Int32.xor_zero]
theorem zag1 {x : Int32} (h : ¬ x &&& 1 = 0) : (x.toUInt32 >>> ((1 : Int32).toUInt32 &&& Int32.toUInt32 31)).toInt32 ^^^ (-1) = uz x := by
  unfold uz
  rcases and1 x with h1 | h1
  · exact absurd h1 h
  · rw [h1]
def GBn (A : Nat → Nat → Int32) (D : Nat → Nat) (b q m : Nat) : Prop := ∀ k, k < m → A 52 k = oR D b q k ∧ A 52 (4 + k) = tR D q k ∧ A 52 (8 + k) = kR D q k ∧ A 52 (12 + k) = vR D q k ∧ A 52 (16 + k) = nI (dR D q k)
/-- the model holds the batch at q -/
def GB (I : Nat → Int32) (A : Nat → Nat → Int32) (D : Nat → Nat) (b q : Nat) : Prop := I 66 = nI (bP D q) ∧ I 67 = bS D q ∧ I 65 = nI (bN D q) ∧ GBn A D b q (bN D q)
theorem GBn_s {A A' : Nat → Nat → Int32} {D : Nat → Nat} {b q m : Nat} (hm : m < 4) (h : GBn A D b q m) (e : A' 52 = upd (upd (upd (upd (upd (A 52) m (oR D b q m)) (4 + m) (tR D q m)) (8 + m) (kR D q m)) (16 + m) (nI (dR D q m))) (12 + m) (vR D q m)) : GBn A' D b q (m + 1) := by
  intro k hk
  rw [e]
  by_cases hkm : k = m
  · subst hkm
    refine ⟨?_, ?_, ?_, ?_, ?_⟩
    · rw [pk_un (by omega), pk_un (by omega), pk_un (by omega), pk_un (by omega)]; exact pk_us
    · rw [pk_un (by omega), pk_un (by omega), pk_un (by omega)]; exact pk_us
    · rw [pk_un (by omega), pk_un (by omega)]; exact pk_us
    · exact pk_us
    · rw [pk_un (by omega)]; exact pk_us
  · have h1 := h k (by omega)
    refine ⟨?_, ?_, ?_, ?_, ?_⟩
    · rw [pk_un (by omega), pk_un (by omega), pk_un (by omega), pk_un (by omega), pk_un (by omega)]; exact h1.1
    · rw [pk_un (by omega), pk_un (by omega), pk_un (by omega), pk_un (by omega), pk_un (by omega)]; exact h1.2.1
    · rw [pk_un (by omega), pk_un (by omega), pk_un (by omega), pk_un (by omega), pk_un (by omega)]; exact h1.2.2.1
    · rw [pk_un (by omega), pk_un (by omega), pk_un (by omega), pk_un (by omega), pk_un (by omega)]; exact h1.2.2.2.1
    · rw [pk_un (by omega), pk_un (by omega), pk_un (by omega), pk_un (by omega), pk_un (by omega)]; exact h1.2.2.2.2
theorem rq_mono (D : Nat → Nat) (q : Nat) : ∀ {i j : Nat}, i ≤ j → rq D q i ≤ rq D q j := by
  intro i j h
  induction h with
  | refl => exact Nat.le_refl _
  | step h ih => exact Nat.le_trans ih (Nat.le_add_right _ _)
section S28
variable {n u : Nat} {I : Nat → Int32} {A : Nat → Nat → Int32} {J : Int64} {B : Nat → Int64} {mk sn L : Nat} {xs : Nat → Int32} {X : Nat → mC} {D : Nat → Nat} 
set_option maxRecDepth 100000 in
set_option maxHeartbeats 4000000 in
theorem k_121 {k : Nat} {Q : mO × mHp → Prop} (kk : Q (.inl (some (.int (nI (128 * k + 8)))), hS n u I A J B mk sn L xs X)) : mq 121 0 [some (.ref 67), some (.int (nI k))] [] (hS n u I A J B mk sn L xs X) Q := by
  refine x_const (pc := 0) (pc' := 3) (.int (nI 128)) rfl rfl rfl rfl ?_
  refine x_il1 (pc := 3) rfl rfl ?_
  refine x_imulN (pc := 4) (c := 128 * k) rfl rfl ?_
  refine x_const (pc := 5) (pc' := 7) (.int (nI 8)) rfl rfl rfl rfl ?_
  refine x_iaddN (pc := 7) (c := (128 * k) + 8) rfl rfl ?_
  refine x_ret (pc := 8) rfl rfl ?_
  exact kk
set_option maxRecDepth 100000 in
set_option maxHeartbeats 4000000 in
theorem k_122 (h : DK (A 50) D) {k : Nat} (hk : k < 16) {Q : mO × mHp → Prop} (kk : Q (.inl (some (.int (nI (128 * k + mB D k)))), hS n u I A J B mk sn L xs X)) : mq 122 0 [some (.ref 67), some (.int (nI k))] [] (hS n u I A J B mk sn L xs X) Q := by
  refine x_const (pc := 0) (pc' := 3) (.int (nI 128)) rfl rfl rfl rfl ?_
  refine x_il1 (pc := 3) rfl rfl ?_
  refine x_imulN (pc := 4) (c := 128 * k) rfl rfl ?_
  refine x_al1 (pc := 5) rfl rfl ?_
  refine x_il1 (pc := 6) rfl rfl ?_
  refine x_k (pc := 7) rfl rfl rfl ⟨Nat.le_of_ble_eq_true rfl, Nat.le_of_ble_eq_true rfl, Nat.le_of_ble_eq_true rfl⟩ rfl (mq_k (c_123 h hk) ?_)
  show mq 122 10 [some (.ref 67), some (.int (nI k))] [.int (nI (mB D k)), .int (nI (128 * k))] (hS n u I A J B mk sn L xs X) _
  refine x_iaddN (pc := 10) (c := (128 * k) + (mB D k)) rfl rfl ?_
  refine x_ret (pc := 11) rfl rfl ?_
  exact kk
set_option maxRecDepth 100000 in
set_option maxHeartbeats 4000000 in
theorem l_125 (h : DK (A 50) D) {Q : mO × mHp → Prop} : ∀ (f p s : Nat) (x : Int32) (w : Option Value) {I : Nat → Int32}, s + 7 * f = 35 → p + vL D f p ≤ 2048 → I 71 = nI p → (∀ I', Fr [71] I I' → I' 71 = nI (p + vL D f p) → Q (.inl (some (.int (vX D f p s x))), hS n u I' A J B mk sn L xs X)) → mq 125 4 [some (.ref 67), some (.int x), some (.int (nI s)), w] [] (hS n u I A J B mk sn L xs X) Q := by
  intro f
  induction f with
  | zero =>
    intro p s x w I hs hp h71 k
    have hs : s = 35 := by omega
    subst hs
    refine x_il1 (pc := 4) rfl rfl ?_
    refine x_const (pc := 5) (pc' := 7) (.int (nI 35)) rfl rfl rfl rfl ?_
    refine x_cmpN_ge (pc := 7) (t := 54) rfl rfl (by omega) (by omega) (fun c7 => ?_) (fun c7 => ?_)
    · refine x_il1 (pc := 54) rfl rfl ?_
      refine x_ret (pc := 55) rfl rfl ?_
      exact k I (Fr_refl _ _) h71
    · omega
  | succ f ih =>
    intro p s x w I hs hp h71 k
    have hd := h.2.1 p
    have hv : vL D (f + 1) p = if D p < 128 then 1 else 1 + vL D f (p + 1) := rfl
    have hx : vX D (f + 1) p s x = if D p < 128 then x ||| ((nI (D p) &&& 127) <<< (nI s &&& 31)) else vX D f (p + 1) (s + 7) (x ||| ((nI (D p) &&& 127) <<< (nI s &&& 31))) := rfl
    have hp1 : p < 2048 := by
      by_cases hb : D p < 128
      · rw [hv, if_pos hb] at hp; omega
      · rw [hv, if_neg hb] at hp; omega
    refine x_il1 (pc := 4) rfl rfl ?_
    refine x_const (pc := 5) (pc' := 7) (.int (nI 35)) rfl rfl rfl rfl ?_
    refine x_cmpN_ge (pc := 7) (t := 54) rfl rfl (by omega) (by omega) (fun c7 => ?_) (fun c7 => ?_)
    · omega
    · refine x_al1 (pc := 10) rfl rfl ?_
      refine g_67_1 (pc := 11) rfl rfl ?_
      refine x_al1 (pc := 14) rfl rfl ?_
      refine g_67_19 (pc := 15) (v := nI p) rfl rfl h71 ?_
      refine al_68 (pc := 18) (q := p) (v := nI (D (p))) rfl rfl (by omega) (congrFun h.1 _) ?_
      refine x_is1 (pc := 19) (ml' := [some (.ref 67), some (.int x), some (.int (nI s)), some (.int (nI (D (p))))]) rfl rfl ?_
      refine x_al1 (pc := 20) rfl rfl ?_
      refine x_step (pc := 21) (pc' := 22) (st' := [.ref 67, .ref 67]) rfl rfl rfl rfl ?_
      refine g_67_19 (pc := 22) (v := nI p) rfl rfl h71 ?_
      refine x_const (pc := 25) (pc' := 26) (.int (nI 1)) rfl rfl rfl rfl ?_
      refine x_iaddN (pc := 26) (c := p + 1) rfl rfl ?_
      refine p_67_19 (pc := 27) rfl rfl ?_
      refine x_il1 (pc := 30) rfl rfl ?_
      refine x_il1 (pc := 31) rfl rfl ?_
      refine x_const (pc := 32) (pc' := 34) (.int (nI 127)) rfl rfl rfl rfl ?_
      refine x_iand (pc := 34) rfl rfl ?_
      refine x_il1 (pc := 35) rfl rfl ?_
      refine x_ishl (pc := 36) rfl rfl ?_
      refine x_ior (pc := 37) rfl rfl ?_
      refine x_is1 (pc := 38) (ml' := [some (.ref 67), some (.int (x ||| (((nI (D (p))) &&& (nI 127)) <<< ((nI s) &&& 31)))), some (.int (nI s)), some (.int (nI (D (p))))]) rfl rfl ?_
      refine x_il1 (pc := 39) rfl rfl ?_
      refine x_const (pc := 40) (pc' := 43) (.int (nI 128)) rfl rfl rfl rfl ?_
      refine x_cmpN_ge (pc := 43) (t := 48) rfl rfl (by omega) (by omega) (fun c43 => ?_) (fun c43 => ?_)
      · have hb : ¬ D p < 128 := by omega
        rw [hv, if_neg hb] at hp
        rw [hv, hx, if_neg hb, if_neg hb] at k
        refine x_iincN (pc := 48) (c := 7) (ml' := [some (.ref 67), some (.int (x ||| (((nI (D (p))) &&& (nI 127)) <<< ((nI s) &&& 31)))), some (.int (nI (s + 7))), some (.int (nI (D (p))))]) rfl rfl rfl rfl ?_
        refine x_step (pc := 51) (pc' := 4) rfl rfl rfl rfl ?_
        exact ih (p + 1) (s + 7) _ _ (by omega) (by omega) rfl (fun I2 f2 e2 => k I2 (Fr_cons (Fr_u (Fr_refl _ _) (by decide)) f2 (by decide)) (e2.trans (congrArg nI (by omega))))
      · have hb : D p < 128 := by omega
        rw [hv, hx, if_pos hb, if_pos hb] at k
        refine x_il1 (pc := 46) rfl rfl ?_
        refine x_ret (pc := 47) rfl rfl ?_
        exact k _ (Fr_u (Fr_refl _ _) (by decide)) rfl
set_option maxRecDepth 100000 in
set_option maxHeartbeats 4000000 in
theorem k_125 (h : DK (A 50) D) {p : Nat} (h71 : I 71 = nI p) (hp : p + lV D p ≤ 2048) {Q : mO × mHp → Prop} (kk : ∀ I', Fr [71] I I' → I' 71 = nI (p + lV D p) → Q (.inl (some (.int (rV D p))), hS n u I' A J B mk sn L xs X)) : mq 125 0 [some (.ref 67), none, none, none] [] (hS n u I A J B mk sn L xs X) Q := by
  refine x_const (pc := 0) (pc' := 1) (.int (nI 0)) rfl rfl rfl rfl ?_
  refine x_is1 (pc := 1) (ml' := [some (.ref 67), some (.int (nI 0)), none, none]) rfl rfl ?_
  refine x_const (pc := 2) (pc' := 3) (.int (nI 0)) rfl rfl rfl rfl ?_
  refine x_is1 (pc := 3) (ml' := [some (.ref 67), some (.int (nI 0)), some (.int (nI 0)), none]) rfl rfl ?_
  exact l_125 h 5 p 0 0 none rfl hp h71 kk
set_option maxRecDepth 100000 in
set_option maxHeartbeats 4000000 in
theorem k_126 (h : DK (A 50) D) {p : Nat} (h71 : I 71 = nI p) (hp : p + lV D p ≤ 2048) {Q : mO × mHp → Prop} (kk : ∀ I', Fr [71] I I' → I' 71 = nI (p + lV D p) → Q (.inl (some (.int (uz (rV D p)))), hS n u I' A J B mk sn L xs X)) : mq 126 0 [some (.ref 67), none] [] (hS n u I A J B mk sn L xs X) Q := by
  refine x_al1 (pc := 0) rfl rfl ?_
  refine x_k (pc := 1) rfl rfl rfl ⟨Nat.le_of_ble_eq_true rfl, Nat.le_of_ble_eq_true rfl, Nat.le_of_ble_eq_true rfl⟩ rfl (k_125 (I := I) (A := A) (p := p) h h71 (by omega) (fun I1 f1 e1 => ?_))
  show mq 126 4 [some (.ref 67), none] [.int (rV D p)] (hS n u I1 A J B mk sn L xs X) _
  refine x_is1 (pc := 4) (ml' := [some (.ref 67), some (.int (rV D p))]) rfl rfl ?_
  refine x_il1 (pc := 5) rfl rfl ?_
  refine x_const (pc := 6) (pc' := 7) (.int (nI 1)) rfl rfl rfl rfl ?_
  refine x_iand (pc := 7) rfl rfl ?_
  refine x_if_ne (pc := 8) (t := 17) rfl rfl rfl (fun c8 => ?_) (fun c8 => ?_)
  · refine x_il1 (pc := 17) rfl rfl ?_
    refine x_const (pc := 18) (pc' := 19) (.int (nI 1)) rfl rfl rfl rfl ?_
    refine x_iushr (pc := 19) rfl rfl ?_
    refine x_const (pc := 20) (pc' := 21) (.int (-1)) rfl rfl rfl rfl ?_
    refine x_ixor (pc := 21) rfl rfl ?_
    refine x_top (y := uz (rV D p)) (zag1 c8) ?_
    refine x_ret (pc := 22) rfl rfl ?_
    exact kk I1 f1 e1
  · refine x_il1 (pc := 11) rfl rfl ?_
    refine x_const (pc := 12) (pc' := 13) (.int (nI 1)) rfl rfl rfl rfl ?_
    refine x_iushr (pc := 13) rfl rfl ?_
    refine x_step (pc := 14) (pc' := 22) rfl rfl rfl rfl ?_
    refine x_top (y := uz (rV D p)) (zag0 c8) ?_
    refine x_ret (pc := 22) rfl rfl ?_
    exact kk I1 f1 e1
set_option maxRecDepth 100000 in
set_option maxHeartbeats 4000000 in
theorem l_124 {b q m k : Nat} (hm : m ≤ 4) (hq : rq D q m ≤ 2048) (hd : ∀ i, i < m → dR D q i ≤ 1) {Q : mO × mHp → Prop} : ∀ (z j : Nat) {I : Nat → Int32} {A : Nat → Nat → Int32} (_ : DK (A 50) D), j + z = m → I 65 = nI m → I 71 = nI (rq D q j) → GBn A D b q j → (∀ I' A', Fr [71] I I' → Fr [52] A A' → I' 71 = nI (rq D q m) → GBn A' D b q m → mq 124 201 [some (.ref 67), some (.int (nI k)), some (.int (nI b + bO D q)), some (.int (bT D q)), some (.int (nI m))] [] (hS n u I' A' J B mk sn L xs X) Q) → mq 124 83 [some (.ref 67), some (.int (nI k)), some (.int (nI b + bO D q)), some (.int (bT D q)), some (.int (nI j))] [] (hS n u I A J B mk sn L xs X) Q := by
  intro z
  induction z with
  | zero =>
    intro j I A h hz h65 h71 hg kk
    have hj : j = m := by omega
    subst hj
    refine x_il2 (pc := 83) rfl rfl ?_
    refine x_al1 (pc := 85) rfl rfl ?_
    refine g_67_9 (pc := 86) (v := nI j) rfl rfl h65 ?_
    refine x_cmpN_ge (pc := 89) (t := 201) rfl rfl (by omega) (by omega) (fun c89 => ?_) (fun c89 => ?_)
    · exact kk I A (Fr_refl _ _) (Fr_refl _ _) h71 hg
    · omega
  | succ z ih =>
    intro j I A h hz h65 h71 hg kk
    have b1 := rq_mono D q (show j + 1 ≤ m by omega)
    have b2 : rq D q (j + 1) = rq D q j + rl D (rq D q j) := rfl
    have hdj := hd j (by omega)
    have b3 : rl3 D (rq D q j) + 1 ≤ rl D (rq D q j) := by unfold rl; split <;> omega
    have b4 : rl3 D (rq D q j) = rl2 D (rq D q j) + lV D (rq D q j + rl2 D (rq D q j)) := rfl
    have b5 : rl2 D (rq D q j) = rl1 D (rq D q j) + lV D (rq D q j + rl1 D (rq D q j)) := rfl
    have b6 : rl1 D (rq D q j) = lV D (rq D q j) := rfl
    refine x_il2 (pc := 83) rfl rfl ?_
    refine x_al1 (pc := 85) rfl rfl ?_
    refine g_67_9 (pc := 86) (v := nI m) rfl rfl h65 ?_
    refine x_cmpN_ge (pc := 89) (t := 201) rfl rfl (by omega) (by omega) (fun c89 => ?_) (fun c89 => ?_)
    · omega
    · refine x_al1 (pc := 92) rfl rfl ?_
      refine g_67_7 (pc := 93) rfl rfl ?_
      refine x_il2 (pc := 96) rfl rfl ?_
      refine x_il1 (pc := 98) rfl rfl ?_
      refine x_al1 (pc := 99) rfl rfl ?_
      refine x_k (pc := 100) rfl rfl rfl ⟨Nat.le_of_ble_eq_true rfl, Nat.le_of_ble_eq_true rfl, Nat.le_of_ble_eq_true rfl⟩ rfl (k_125 (I := I) (A := A) (p := rq D q j) h h71 (by omega) (fun I1 f1 e1 => ?_))
      show mq 124 103 [some (.ref 67), some (.int (nI k)), some (.int (nI b + bO D q)), some (.int (bT D q)), some (.int (nI j))] [.int (rV D (rq D q j)), .int (nI b + bO D q), .int (nI j), .ref 70] (hS n u I1 A J B mk sn L xs X) _
      refine x_iaddV (pc := 103) (v := oR D b q j) rfl (rfl) ?_
      refine as_70 (pc := 104) (q := j) rfl rfl (by omega) ?_
      refine x_al1 (pc := 105) rfl rfl ?_
      refine g_67_7 (pc := 106) rfl rfl ?_
      refine x_const (pc := 109) (pc' := 110) (.int (nI 4)) rfl rfl rfl rfl ?_
      refine x_il2 (pc := 110) rfl rfl ?_
      refine x_iaddN (pc := 112) (c := 4 + j) rfl rfl ?_
      refine x_il1 (pc := 113) rfl rfl ?_
      refine x_al1 (pc := 114) rfl rfl ?_
      refine x_k (pc := 115) rfl rfl rfl ⟨Nat.le_of_ble_eq_true rfl, Nat.le_of_ble_eq_true rfl, Nat.le_of_ble_eq_true rfl⟩ rfl (k_126 (I := I1) (A := va_up A 52 (upd (A 52) j (oR D b q j))) (p := rq D q j + rl1 D (rq D q j)) h e1 (by omega) (fun I2 f2 e2 => ?_))
      show mq 124 118 [some (.ref 67), some (.int (nI k)), some (.int (nI b + bO D q)), some (.int (bT D q)), some (.int (nI j))] [.int (uz (rV D (rq D q j + rl1 D (rq D q j)))), .int (bT D q), .int (nI (4 + j)), .ref 70] (hS n u I2 (va_up A 52 (upd (A 52) j (oR D b q j))) J B mk sn L xs X) _
      refine x_iaddV (pc := 118) (v := tR D q j) rfl (rfl) ?_
      refine as_70 (pc := 119) (q := 4 + j) rfl rfl (by omega) ?_
      refine x_al1 (pc := 120) rfl rfl ?_
      refine g_67_7 (pc := 121) rfl rfl ?_
      refine x_const (pc := 124) (pc' := 126) (.int (nI 8)) rfl rfl rfl rfl ?_
      refine x_il2 (pc := 126) rfl rfl ?_
      refine x_iaddN (pc := 128) (c := 8 + j) rfl rfl ?_
      refine x_al1 (pc := 129) rfl rfl ?_
      refine x_k (pc := 130) rfl rfl rfl ⟨Nat.le_of_ble_eq_true rfl, Nat.le_of_ble_eq_true rfl, Nat.le_of_ble_eq_true rfl⟩ rfl (k_126 (I := I2) (A := va_up (va_up A 52 (upd (A 52) j (oR D b q j))) 52 (upd (upd (A 52) j (oR D b q j)) (4 + j) (tR D q j))) (p := rq D q j + rl2 D (rq D q j)) h (e2.trans (congrArg nI (show rq D q j + rl1 D (rq D q j) + lV D (rq D q j + rl1 D (rq D q j)) = rq D q j + rl2 D (rq D q j) from by unfold rl2; omega))) (by omega) (fun I3 f3 e3 => ?_))
      show mq 124 133 [some (.ref 67), some (.int (nI k)), some (.int (nI b + bO D q)), some (.int (bT D q)), some (.int (nI j))] [.int (uz (rV D (rq D q j + rl2 D (rq D q j)))), .int (nI (8 + j)), .ref 70] (hS n u I3 (va_up (va_up A 52 (upd (A 52) j (oR D b q j))) 52 (upd (upd (A 52) j (oR D b q j)) (4 + j) (tR D q j))) J B mk sn L xs X) _
      refine x_top (y := kR D q j) (rfl) ?_
      refine as_70 (pc := 133) (q := 8 + j) rfl rfl (by omega) ?_
      refine x_al1 (pc := 134) rfl rfl ?_
      refine g_67_7 (pc := 135) rfl rfl ?_
      refine x_const (pc := 138) (pc' := 140) (.int (nI 16)) rfl rfl rfl rfl ?_
      refine x_il2 (pc := 140) rfl rfl ?_
      refine x_iaddN (pc := 142) (c := 16 + j) rfl rfl ?_
      refine x_al1 (pc := 143) rfl rfl ?_
      refine g_67_1 (pc := 144) rfl rfl ?_
      refine x_al1 (pc := 147) rfl rfl ?_
      refine g_67_19 (pc := 148) (v := nI (rq D q j + rl3 D (rq D q j))) rfl rfl (e3.trans (congrArg nI (show rq D q j + rl2 D (rq D q j) + lV D (rq D q j + rl2 D (rq D q j)) = rq D q j + rl3 D (rq D q j) from by unfold rl3; omega))) ?_
      refine al_68 (pc := 151) (q := rq D q j + rl3 D (rq D q j)) (v := nI (dR D q j)) rfl rfl (by omega) (congrFun h.1 _) ?_
      refine as_70 (pc := 152) (q := 16 + j) rfl rfl (by omega) ?_
      refine x_al1 (pc := 153) rfl rfl ?_
      refine x_step (pc := 154) (pc' := 155) (st' := [.ref 67, .ref 67]) rfl rfl rfl rfl ?_
      refine g_67_19 (pc := 155) (v := nI (rq D q j + rl3 D (rq D q j))) rfl rfl (e3.trans (congrArg nI (show rq D q j + rl2 D (rq D q j) + lV D (rq D q j + rl2 D (rq D q j)) = rq D q j + rl3 D (rq D q j) from by unfold rl3; omega))) ?_
      refine x_const (pc := 158) (pc' := 159) (.int (nI 1)) rfl rfl rfl rfl ?_
      refine x_iaddN (pc := 159) (c := (rq D q j + rl3 D (rq D q j)) + 1) rfl rfl ?_
      refine p_67_19 (pc := 160) rfl rfl ?_
      refine x_al1 (pc := 163) rfl rfl ?_
      refine g_67_7 (pc := 164) rfl rfl ?_
      refine x_const (pc := 167) (pc' := 169) (.int (nI 12)) rfl rfl rfl rfl ?_
      refine x_il2 (pc := 169) rfl rfl ?_
      refine x_iaddN (pc := 171) (c := 12 + j) rfl rfl ?_
      refine x_al1 (pc := 172) rfl rfl ?_
      refine g_67_7 (pc := 173) rfl rfl ?_
      refine x_const (pc := 176) (pc' := 178) (.int (nI 16)) rfl rfl rfl rfl ?_
      refine x_il2 (pc := 178) rfl rfl ?_
      refine x_iaddN (pc := 180) (c := 16 + j) rfl rfl ?_
      refine al_70 (pc := 181) (q := 16 + j) (v := nI (dR D q j)) rfl rfl (by omega) pk_us ?_
      refine x_const (pc := 182) (pc' := 183) (.int (nI 1)) rfl rfl rfl rfl ?_
      refine x_cmpN_ne (pc := 183) (t := 190) rfl rfl (by omega) (by decide) (fun c183 => ?_) (fun c183 => ?_)
      · have hz0 : rDl D (rq D q j) = 0 := by show dR D q j = 0; omega
        have hrl : rl D (rq D q j) = rl3 D (rq D q j) + 1 + lV D (rq D q j + rl3 D (rq D q j) + 1) := by unfold rl; rw [if_pos hz0]
        refine x_al1 (pc := 190) rfl rfl ?_
        refine x_k (pc := 191) rfl rfl rfl ⟨Nat.le_of_ble_eq_true rfl, Nat.le_of_ble_eq_true rfl, Nat.le_of_ble_eq_true rfl⟩ rfl (k_126 (I := va_up I3 71 (nI ((rq D q j + rl3 D (rq D q j)) + 1))) (A := va_up (va_up (va_up (va_up A 52 (upd (A 52) j (oR D b q j))) 52 (upd (upd (A 52) j (oR D b q j)) (4 + j) (tR D q j))) 52 (upd (upd (upd (A 52) j (oR D b q j)) (4 + j) (tR D q j)) (8 + j) (kR D q j))) 52 (upd (upd (upd (upd (A 52) j (oR D b q j)) (4 + j) (tR D q j)) (8 + j) (kR D q j)) (16 + j) (nI (dR D q j)))) (p := rq D q j + rl3 D (rq D q j) + 1) h rfl (by omega) (fun I4 f4 e4 => ?_))
        show mq 124 194 [some (.ref 67), some (.int (nI k)), some (.int (nI b + bO D q)), some (.int (bT D q)), some (.int (nI j))] [.int (uz (rV D (rq D q j + rl3 D (rq D q j) + 1))), .int (nI (12 + j)), .ref 70] (hS n u I4 (va_up (va_up (va_up (va_up A 52 (upd (A 52) j (oR D b q j))) 52 (upd (upd (A 52) j (oR D b q j)) (4 + j) (tR D q j))) 52 (upd (upd (upd (A 52) j (oR D b q j)) (4 + j) (tR D q j)) (8 + j) (kR D q j))) 52 (upd (upd (upd (upd (A 52) j (oR D b q j)) (4 + j) (tR D q j)) (8 + j) (kR D q j)) (16 + j) (nI (dR D q j)))) J B mk sn L xs X) _
        refine x_top (y := vR D q j) ((if_pos hz0).symm) ?_
        refine as_70 (pc := 194) (q := 12 + j) rfl rfl (by omega) ?_
        refine x_iincN (pc := 195) (c := 1) (ml' := [some (.ref 67), some (.int (nI k)), some (.int (nI b + bO D q)), some (.int (bT D q)), some (.int (nI (j + 1)))]) rfl rfl rfl rfl ?_
        refine x_step (pc := 198) (pc' := 83) rfl rfl rfl rfl ?_
        exact ih (j + 1) (I := I4) (A := va_up (va_up (va_up (va_up (va_up A 52 (upd (A 52) j (oR D b q j))) 52 (upd (upd (A 52) j (oR D b q j)) (4 + j) (tR D q j))) 52 (upd (upd (upd (A 52) j (oR D b q j)) (4 + j) (tR D q j)) (8 + j) (kR D q j))) 52 (upd (upd (upd (upd (A 52) j (oR D b q j)) (4 + j) (tR D q j)) (8 + j) (kR D q j)) (16 + j) (nI (dR D q j)))) 52 (upd (upd (upd (upd (upd (A 52) j (oR D b q j)) (4 + j) (tR D q j)) (8 + j) (kR D q j)) (16 + j) (nI (dR D q j))) (12 + j) (vR D q j))) h (by omega) ((f4 65 (by decide)).trans ((f3 65 (by decide)).trans ((f2 65 (by decide)).trans ((f1 65 (by decide)).trans h65)))) ((e4.trans (congrArg nI (show rq D q j + rl3 D (rq D q j) + 1 + lV D (rq D q j + rl3 D (rq D q j) + 1) = rq D q j + rl D (rq D q j) from by omega))).trans (congrArg nI (show rq D q j + rl D (rq D q j) = rq D q (j + 1) from rfl))) (GBn_s (by omega) hg rfl) (fun I9 A9 f9 g9 e9 hg9 => kk I9 A9 (Fr_cons (Fr_cons (Fr_u (Fr_cons (Fr_cons (Fr_cons (Fr_refl _ _) f1 (by decide)) f2 (by decide)) f3 (by decide)) (by decide)) f4 (by decide)) f9 (by decide)) (Fr_cons (Fr_u (Fr_u (Fr_u (Fr_u (Fr_u (Fr_refl _ _) (by decide)) (by decide)) (by decide)) (by decide)) (by decide)) g9 (by decide)) e9 hg9)
      · have hz1 : ¬ rDl D (rq D q j) = 0 := by show ¬ dR D q j = 0; omega
        have hrl : rl D (rq D q j) = rl3 D (rq D q j) + 1 := by unfold rl; rw [if_neg hz1]
        refine x_const (pc := 186) (pc' := 187) (.int (nI 0)) rfl rfl rfl rfl ?_
        refine x_step (pc := 187) (pc' := 194) rfl rfl rfl rfl ?_
        refine x_top (y := vR D q j) ((if_neg hz1).symm) ?_
        refine as_70 (pc := 194) (q := 12 + j) rfl rfl (by omega) ?_
        refine x_iincN (pc := 195) (c := 1) (ml' := [some (.ref 67), some (.int (nI k)), some (.int (nI b + bO D q)), some (.int (bT D q)), some (.int (nI (j + 1)))]) rfl rfl rfl rfl ?_
        refine x_step (pc := 198) (pc' := 83) rfl rfl rfl rfl ?_
        exact ih (j + 1) (I := va_up I3 71 (nI ((rq D q j + rl3 D (rq D q j)) + 1))) (A := va_up (va_up (va_up (va_up (va_up A 52 (upd (A 52) j (oR D b q j))) 52 (upd (upd (A 52) j (oR D b q j)) (4 + j) (tR D q j))) 52 (upd (upd (upd (A 52) j (oR D b q j)) (4 + j) (tR D q j)) (8 + j) (kR D q j))) 52 (upd (upd (upd (upd (A 52) j (oR D b q j)) (4 + j) (tR D q j)) (8 + j) (kR D q j)) (16 + j) (nI (dR D q j)))) 52 (upd (upd (upd (upd (upd (A 52) j (oR D b q j)) (4 + j) (tR D q j)) (8 + j) (kR D q j)) (16 + j) (nI (dR D q j))) (12 + j) (vR D q j))) h (by omega) ((f3 65 (by decide)).trans ((f2 65 (by decide)).trans ((f1 65 (by decide)).trans h65))) (((show _ = nI (rq D q j + rl D (rq D q j)) from by rw [hrl]; exact rfl)).trans (congrArg nI (show rq D q j + rl D (rq D q j) = rq D q (j + 1) from rfl))) (GBn_s (by omega) hg rfl) (fun I9 A9 f9 g9 e9 hg9 => kk I9 A9 (Fr_cons (Fr_u (Fr_cons (Fr_cons (Fr_cons (Fr_refl _ _) f1 (by decide)) f2 (by decide)) f3 (by decide)) (by decide)) f9 (by decide)) (Fr_cons (Fr_u (Fr_u (Fr_u (Fr_u (Fr_u (Fr_refl _ _) (by decide)) (by decide)) (by decide)) (by decide)) (by decide)) g9 (by decide)) e9 hg9)
set_option maxRecDepth 100000 in
set_option maxHeartbeats 4000000 in
theorem k_124 (h : DK (A 50) D) {k q : Nat} (hk : k < 16) (h71 : I 71 = nI q) (hn : bN D q ≤ 4) (hd : ∀ i, i < bN D q → dR D q i ≤ 1) (he : rq D q (bN D q) ≤ 2048) {Q : mO × mHp → Prop} (kk : ∀ I' A', Fr [65, 66, 67, 71] I I' → Fr [52] A A' → I' 71 = nI (rq D q (bN D q)) → GB I' A' D (bB D k) q → Q (.inl none, hS n u I' A' J B mk sn L xs X)) : mq 124 0 [some (.ref 67), some (.int (nI k)), none, none, none] [] (hS n u I A J B mk sn L xs X) Q := by
  have r1 := rq_mono D q (Nat.zero_le (bN D q))
  have r2 : rq D q 0 = bp5 D q + 1 := rfl
  have r3 : bp5 D q = bp3 D q + 1 + lV D (bp3 D q + 1) := rfl
  have r4 : bp3 D q = bp2 D q + lV D (bp2 D q) := rfl
  have r5 : bp2 D q = q + 1 + lV D (q + 1) := rfl
  refine x_al1 (pc := 0) rfl rfl ?_
  refine x_step (pc := 1) (pc' := 2) (st' := [.ref 67, .ref 67]) rfl rfl rfl rfl ?_
  refine g_67_19 (pc := 2) (v := nI q) rfl rfl h71 ?_
  refine x_const (pc := 5) (pc' := 6) (.int (nI 1)) rfl rfl rfl rfl ?_
  refine x_iaddN (pc := 6) (c := q + 1) rfl rfl ?_
  refine p_67_19 (pc := 7) rfl rfl ?_
  refine x_al1 (pc := 10) rfl rfl ?_
  refine x_il1 (pc := 11) rfl rfl ?_
  refine x_k (pc := 12) rfl rfl rfl ⟨Nat.le_of_ble_eq_true rfl, Nat.le_of_ble_eq_true rfl, Nat.le_of_ble_eq_true rfl⟩ rfl (mq_k (c_120 h hk) ?_)
  show mq 124 15 [some (.ref 67), some (.int (nI k)), none, none, none] [.int (nI (bB D k))] (hS n u (va_up I 71 (nI (q + 1))) A J B mk sn L xs X) _
  refine x_al1 (pc := 15) rfl rfl ?_
  refine x_k (pc := 16) rfl rfl rfl ⟨Nat.le_of_ble_eq_true rfl, Nat.le_of_ble_eq_true rfl, Nat.le_of_ble_eq_true rfl⟩ rfl (k_125 (I := va_up I 71 (nI (q + 1))) (A := A) (p := q + 1) h rfl (by omega) (fun I1 f1 e1 => ?_))
  show mq 124 19 [some (.ref 67), some (.int (nI k)), none, none, none] [.int (rV D (q + 1)), .int (nI (bB D k))] (hS n u I1 A J B mk sn L xs X) _
  refine x_iaddV (pc := 19) (v := nI (bB D k) + bO D q) rfl (rfl) ?_
  refine x_is1 (pc := 20) (ml' := [some (.ref 67), some (.int (nI k)), some (.int (nI (bB D k) + bO D q)), none, none]) rfl rfl ?_
  refine x_al1 (pc := 21) rfl rfl ?_
  refine x_k (pc := 22) rfl rfl rfl ⟨Nat.le_of_ble_eq_true rfl, Nat.le_of_ble_eq_true rfl, Nat.le_of_ble_eq_true rfl⟩ rfl (k_126 (I := I1) (A := A) (p := bp2 D q) h e1 (by omega) (fun I2 f2 e2 => ?_))
  show mq 124 25 [some (.ref 67), some (.int (nI k)), some (.int (nI (bB D k) + bO D q)), none, none] [.int (uz (rV D (bp2 D q)))] (hS n u I2 A J B mk sn L xs X) _
  refine x_top (y := bT D q) (rfl) ?_
  refine x_is1 (pc := 25) (ml' := [some (.ref 67), some (.int (nI k)), some (.int (nI (bB D k) + bO D q)), some (.int (bT D q)), none]) rfl rfl ?_
  refine x_al1 (pc := 26) rfl rfl ?_
  refine x_al1 (pc := 27) rfl rfl ?_
  refine g_67_1 (pc := 28) rfl rfl ?_
  refine x_al1 (pc := 31) rfl rfl ?_
  refine g_67_19 (pc := 32) (v := nI (bp3 D q)) rfl rfl e2 ?_
  refine al_68 (pc := 35) (q := bp3 D q) (v := nI (D (bp3 D q))) rfl rfl (by omega) (congrFun h.1 _) ?_
  refine p_67_10 (pc := 36) rfl rfl ?_
  refine x_al1 (pc := 39) rfl rfl ?_
  refine x_step (pc := 40) (pc' := 41) (st' := [.ref 67, .ref 67]) rfl rfl rfl rfl ?_
  refine g_67_19 (pc := 41) (v := nI (bp3 D q)) rfl rfl e2 ?_
  refine x_const (pc := 44) (pc' := 45) (.int (nI 1)) rfl rfl rfl rfl ?_
  refine x_iaddN (pc := 45) (c := (bp3 D q) + 1) rfl rfl ?_
  refine p_67_19 (pc := 46) rfl rfl ?_
  refine x_al1 (pc := 49) rfl rfl ?_
  refine x_al1 (pc := 50) rfl rfl ?_
  refine x_k (pc := 51) rfl rfl rfl ⟨Nat.le_of_ble_eq_true rfl, Nat.le_of_ble_eq_true rfl, Nat.le_of_ble_eq_true rfl⟩ rfl (k_125 (I := va_up (va_up I2 66 (nI (D (bp3 D q)))) 71 (nI ((bp3 D q) + 1))) (A := A) (p := bp3 D q + 1) h rfl (by omega) (fun I3 f3 e3 => ?_))
  show mq 124 54 [some (.ref 67), some (.int (nI k)), some (.int (nI (bB D k) + bO D q)), some (.int (bT D q)), none] [.int (rV D (bp3 D q + 1)), .ref 67] (hS n u I3 A J B mk sn L xs X) _
  refine p_67_11 (pc := 54) rfl rfl ?_
  refine x_al1 (pc := 57) rfl rfl ?_
  refine x_al1 (pc := 58) rfl rfl ?_
  refine g_67_1 (pc := 59) rfl rfl ?_
  refine x_al1 (pc := 62) rfl rfl ?_
  refine g_67_19 (pc := 63) (v := nI (bp5 D q)) rfl rfl e3 ?_
  refine al_68 (pc := 66) (q := bp5 D q) (v := nI (D (bp5 D q))) rfl rfl (by omega) (congrFun h.1 _) ?_
  refine p_67_9 (pc := 67) rfl rfl ?_
  refine x_al1 (pc := 70) rfl rfl ?_
  refine x_step (pc := 71) (pc' := 72) (st' := [.ref 67, .ref 67]) rfl rfl rfl rfl ?_
  refine g_67_19 (pc := 72) (v := nI (bp5 D q)) rfl rfl e3 ?_
  refine x_const (pc := 75) (pc' := 76) (.int (nI 1)) rfl rfl rfl rfl ?_
  refine x_iaddN (pc := 76) (c := (bp5 D q) + 1) rfl rfl ?_
  refine p_67_19 (pc := 77) rfl rfl ?_
  refine x_const (pc := 80) (pc' := 81) (.int (nI 0)) rfl rfl rfl rfl ?_
  refine x_is2 (pc := 81) (ml' := [some (.ref 67), some (.int (nI k)), some (.int (nI (bB D k) + bO D q)), some (.int (bT D q)), some (.int (nI 0))]) rfl rfl ?_
  refine l_124 (I := va_up (va_up (va_up I3 67 (rV D (bp3 D q + 1))) 65 (nI (D (bp5 D q)))) 71 (nI ((bp5 D q) + 1))) (A := A) (m := bN D q) (b := bB D k) (q := q) hn he hd (bN D q) 0 h (Nat.zero_add _) rfl rfl (fun k hk => absurd hk (Nat.not_lt_zero k)) (fun I9 A9 f9 g9 e9 hg => ?_)
  refine x_ret (pc := 201) rfl rfl ?_
  exact kk _ _ (Fr_cons (Fr_u (Fr_u (Fr_u (Fr_cons (Fr_u (Fr_u (Fr_cons (Fr_cons (Fr_u (Fr_refl _ _) (by decide)) f1 (by decide)) f2 (by decide)) (by decide)) (by decide)) f3 (by decide)) (by decide)) (by decide)) (by decide)) f9 (by decide)) (Fr_cons (Fr_refl _ _) g9 (by decide)) e9 ⟨(f9 66 (by decide)).trans (f3 66 (by decide)), f9 67 (by decide), f9 65 (by decide), hg⟩
end S28
