/-! Zigzag; the model's tape. -/
/-- a whole number as its 32 bits -/
def uN (x : Int32) : Nat := x.toBitVec.toNat
theorem uN_lt (x : Int32) : uN x < 2 ^ 32 := x.toBitVec.isLt
theorem nI_uN (x : Int32) : nI (uN x) = x := by
  apply Int32.toBitVec_inj.mp
  apply BitVec.eq_of_toNat_eq
  show (BitVec.ofNat 32 x.toBitVec.toNat).toNat = x.toBitVec.toNat
  rw [BitVec.toNat_ofNat]
  exact Nat.mod_eq_of_lt x.toBitVec.isLt
theorem uN_nI {m : Nat} (h : m < 2 ^ 32) : uN (nI m) = m := pk_tn h
def zz (x : Int32) : Int32 := x <<< ((1 : Int32) &&& 31) ^^^ x >>> ((31 : Int32) &&& 31)
def zN (x : Int32) : Nat := uN (zz x)
theorem zz_pos {x : Int32} (h : 0 ≤ x) : x <<< ((1 : Int32) &&& 31) = zz x := by
  have h0 : x >>> ((31 : Int32) &&& 31) = 0 := by
    apply Int32.toInt_inj.mp
    rw [pk_shr x _ 31 (by decide)]
    have h1 := Int32.le_iff_toInt_le.mp h
    have h2 : x.toInt < 2 ^ 31 := Int32.toInt_lt x
    have h3 : (0 : Int32).toInt = 0 := rfl
    rw [h3] at h1
    rw [Int.shiftRight_eq_div_pow, h3]
    omega
  unfold zz
  rw [h0, Int32.xor_zero]
theorem zz_neg {x : Int32} (h : x < 0) : (x ^^^ (-1)) <<< ((1 : Int32) &&& 31) ||| 1 = zz x := by
  have h0 : x >>> ((31 : Int32) &&& 31) = -1 := by
    apply Int32.toInt_inj.mp
    rw [pk_shr x _ 31 (by decide)]
    have h1 := Int32.lt_iff_toInt_lt.mp h
    have h2 : -2 ^ 31 ≤ x.toInt := Int32.le_toInt x
    have h3 : (0 : Int32).toInt = 0 := rfl
    have h4 : (-1 : Int32).toInt = -1 := rfl
    rw [h3] at h1
    rw [Int.shiftRight_eq_div_pow, h4]
    omega
  unfold zz
  rw [h0]
  have key : ∀ y : BitVec 32, (y ^^^ BitVec.allOnes 32) <<< 1 ||| 1#32 = y <<< 1 ^^^ BitVec.allOnes 32 := by
    intro y
    apply BitVec.eq_of_getLsbD_eq
    intro i hi
    simp only [BitVec.getLsbD_or, BitVec.getLsbD_shiftLeft, BitVec.getLsbD_xor, BitVec.getLsbD_allOnes, BitVec.getLsbD_one]
    rcases Nat.eq_zero_or_pos i with q | q
    · subst q
      simp
    · have q1 : ¬ i < 1 := by omega
      have q2 : ¬ i = 0 := by omega
      simp [q1, q2, hi, show i - 1 < 32 by omega]
  apply Int32.toBitVec_inj.mp
  exact key x.toBitVec
/-- the model's tape holds l -/
def Tp (I : Nat → Int32) (A : Nat → Nat → Int32) (l : List Nat) : Prop := I 68 = nI l.length ∧ ∀ j, j < l.length → A 54 j = nI (gB0 l j)
theorem Tp_fr {SI SA : List Nat} {I I' : Nat → Int32} {A A' : Nat → Nat → Int32} {l : List Nat} (h : Tp I A l) (f : Fr SI I I') (g : Fr SA A A') (hr : 68 ∉ SI) (ha : 54 ∉ SA) : Tp I' A' l := ⟨(f 68 hr).trans h.1, fun j hj => by rw [g 54 ha]; exact h.2 j hj⟩
theorem Tp_put {I I' : Nat → Int32} {A A' : Nat → Nat → Int32} {l : List Nat} {v : Nat} (h : Tp I A l) (hI : I' 68 = nI (l.length + 1)) (hA : A' 54 = upd (A 54) l.length (nI v)) : Tp I' A' (l ++ [v]) := by
  refine ⟨by rw [hI]; simp, fun j hj => ?_⟩
  rw [hA]
  by_cases hjl : j = l.length
  · subst hjl
    rw [pk_us, gB0_at]
  · have hj' : j < l.length := by
      simp at hj
      omega
    rw [pk_un hjl, h.2 j hj', gB0_lt hj']
theorem vE_cut : ∀ f m, m < 2 ^ (4 + 7 * f) → vE (f + 1) m = vE f m
  | 0, m, h => by
    have h0 : m / 128 = 0 := Nat.div_eq_of_lt (by omega)
    show (if m / 128 = 0 then [m % 256] else _) = [m % 256]
    rw [if_pos h0]
  | f + 1, m, h => by
    have h1 : m / 128 < 2 ^ (4 + 7 * f) := by
      have e : 2 ^ (4 + 7 * (f + 1)) = 2 ^ (4 + 7 * f) * 128 := by rw [show 4 + 7 * (f + 1) = 4 + 7 * f + 7 by omega, Nat.pow_add]
      rw [e] at h
      exact Nat.div_lt_of_lt_mul (by rw [Nat.mul_comm]; exact h)
    show (if m / 128 = 0 then [m % 256] else (m % 128 + 128) :: vE (f + 1) (m / 128)) = (if m / 128 = 0 then [m % 256] else (m % 128 + 128) :: vE f (m / 128))
    rw [vE_cut f (m / 128) h1]
section S45
variable {n u : Nat} {I : Nat → Int32} {A : Nat → Nat → Int32} {J : Int64} {B : Nat → Int64} {mk sn L : Nat} {xs : Nat → Int32} {X : Nat → mC} {D : Nat → Nat} 
set_option maxRecDepth 100000 in
set_option maxHeartbeats 4000000 in
theorem k_69 {x : Int32} {Q : mO × mHp → Prop} (kk : Q (.inl (some (.int (nI (zN x)))), hS n u I A J B mk sn L xs X)) : mq 69 0 [some (.int x)] [] (hS n u I A J B mk sn L xs X) Q := by
  refine x_il1 (pc := 0) rfl rfl ?_
  refine x_const (pc := 1) (pc' := 2) (.int (nI 1)) rfl rfl rfl rfl ?_
  refine x_ishl (pc := 2) rfl rfl ?_
  refine x_il1 (pc := 3) rfl rfl ?_
  refine x_const (pc := 4) (pc' := 6) (.int (nI 31)) rfl rfl rfl rfl ?_
  refine x_ishr (pc := 6) rfl rfl ?_
  refine x_ixorV (pc := 7) (v := nI (zN x)) rfl ((nI_uN (zz x)).symm) ?_
  refine x_ret (pc := 8) rfl rfl ?_
  exact kk
set_option maxRecDepth 100000 in
set_option maxHeartbeats 4000000 in
theorem k_128 {x : Int32} {l : List Nat} (hT : Tp I A l) (hl : l.length < 600) {Q : mO × mHp → Prop} (kk : ∀ I' A', Fr [68] I I' → Fr [54] A A' → Tp I' A' (l ++ [b8 x]) → Q (.inl none, hS n u I' A' J B mk sn L xs X)) : mq 128 0 [some (.ref 67), some (.int x)] [] (hS n u I A J B mk sn L xs X) Q := by
  refine x_al1 (pc := 0) rfl rfl ?_
  refine g_67_12 (pc := 1) rfl rfl ?_
  refine x_al1 (pc := 4) rfl rfl ?_
  refine g_67_13 (pc := 5) (v := nI l.length) rfl rfl hT.1 ?_
  refine x_il1 (pc := 8) rfl rfl ?_
  refine x_const (pc := 9) (pc' := 12) (.int (nI 255)) rfl rfl rfl rfl ?_
  refine x_iandV (pc := 12) (v := nI (b8 x)) rfl (and255 x) ?_
  refine as_72 (pc := 13) (q := l.length) rfl rfl (by omega) ?_
  refine x_al1 (pc := 14) rfl rfl ?_
  refine x_step (pc := 15) (pc' := 16) (st' := [.ref 67, .ref 67]) rfl rfl rfl rfl ?_
  refine g_67_13 (pc := 16) (v := nI l.length) rfl rfl hT.1 ?_
  refine x_const (pc := 19) (pc' := 20) (.int (nI 1)) rfl rfl rfl rfl ?_
  refine x_iaddN (pc := 20) (c := l.length + 1) rfl rfl ?_
  refine p_67_13 (pc := 21) rfl rfl ?_
  refine x_ret (pc := 24) rfl rfl ?_
  exact kk _ _ (Fr_u (Fr_refl _ _) (by decide)) (Fr_u (Fr_refl _ _) (by decide)) (Tp_put hT rfl rfl)
set_option maxRecDepth 100000 in
set_option maxHeartbeats 4000000 in
theorem l_129 {x0 : Int32} {Q : mO × mHp → Prop} : ∀ (f m : Nat) (l : List Nat) {I : Nat → Int32} {A : Nat → Nat → Int32}, (m < 2 ^ 32) → (m < 2 ^ (4 + 7 * f)) → (l.length + f < 600) → (Tp I A l) → (∀ I' A', Fr [68] I I' → Fr [54] A A' → Tp I' A' (l ++ vE f m) → Q (.inl none, hS n u I' A' J B mk sn L xs X)) → mq 129 2 [some (.ref 67), some (.int x0), some (.int (nI m))] [] (hS n u I A J B mk sn L xs X) Q := by
  intro f
  induction f with
  | zero =>
    intro m l I A hm2 hm hl hT kk
    refine x_il1 (pc := 2) rfl rfl ?_
    refine x_const (pc := 3) (pc' := 5) (.int (nI 7)) rfl rfl rfl rfl ?_
    refine x_iushrV (pc := 5) (v := nI (m / 128)) rfl (pk_ushrN hm2 _ 7 (by decide)) ?_
    refine x_ifN_eq (pc := 6) (t := 29) rfl rfl (by omega) (fun c6 => ?_) (fun c6 => ?_)
    · refine x_al1 (pc := 29) rfl rfl ?_
      refine x_il1 (pc := 30) rfl rfl ?_
      refine x_k (pc := 31) rfl rfl rfl ⟨Nat.le_of_ble_eq_true rfl, Nat.le_of_ble_eq_true rfl, Nat.le_of_ble_eq_true rfl⟩ rfl (k_128 (I := I) (A := A) (x := nI m) (l := l) hT (by omega) (fun I9 A9 f9 g9 h9 => ?_))
      show mq 129 34 [some (.ref 67), some (.int x0), some (.int (nI m))] [] (hS n u I9 A9 J B mk sn L xs X) _
      refine x_ret (pc := 34) rfl rfl ?_
      rw [b8_nI] at h9
      exact kk _ _ f9 g9 h9
    · exact absurd (Nat.div_eq_of_lt (show m < 128 by omega)) c6
  | succ f ih =>
    intro m l I A hm2 hm hl hT kk
    refine x_il1 (pc := 2) rfl rfl ?_
    refine x_const (pc := 3) (pc' := 5) (.int (nI 7)) rfl rfl rfl rfl ?_
    refine x_iushrV (pc := 5) (v := nI (m / 128)) rfl (pk_ushrN hm2 _ 7 (by decide)) ?_
    refine x_ifN_eq (pc := 6) (t := 29) rfl rfl (by omega) (fun c6 => ?_) (fun c6 => ?_)
    · have ev : vE (f + 1) m = [m % 256] := if_pos c6
      rw [ev] at kk
      refine x_al1 (pc := 29) rfl rfl ?_
      refine x_il1 (pc := 30) rfl rfl ?_
      refine x_k (pc := 31) rfl rfl rfl ⟨Nat.le_of_ble_eq_true rfl, Nat.le_of_ble_eq_true rfl, Nat.le_of_ble_eq_true rfl⟩ rfl (k_128 (I := I) (A := A) (x := nI m) (l := l) hT (by omega) (fun I9 A9 f9 g9 h9 => ?_))
      show mq 129 34 [some (.ref 67), some (.int x0), some (.int (nI m))] [] (hS n u I9 A9 J B mk sn L xs X) _
      refine x_ret (pc := 34) rfl rfl ?_
      rw [b8_nI] at h9
      exact kk _ _ f9 g9 h9
    · refine x_al1 (pc := 9) rfl rfl ?_
      refine x_il1 (pc := 10) rfl rfl ?_
      refine x_const (pc := 11) (pc' := 13) (.int (nI 127)) rfl rfl rfl rfl ?_
      refine x_iandV (pc := 13) (v := nI (m % 128)) rfl (pk_andN hm2 7 (by decide)) ?_
      refine x_const (pc := 14) (pc' := 17) (.int (nI 128)) rfl rfl rfl rfl ?_
      refine x_iorV (pc := 17) (v := nI (m % 128 + 128)) rfl (or128 m) ?_
      refine x_k (pc := 18) rfl rfl rfl ⟨Nat.le_of_ble_eq_true rfl, Nat.le_of_ble_eq_true rfl, Nat.le_of_ble_eq_true rfl⟩ rfl (k_128 (I := I) (A := A) (x := nI (m % 128 + 128)) (l := l) hT (by omega) (fun I1 A1 f1 g1 h1 => ?_))
      show mq 129 21 [some (.ref 67), some (.int x0), some (.int (nI m))] [] (hS n u I1 A1 J B mk sn L xs X) _
      refine x_il1 (pc := 21) rfl rfl ?_
      refine x_const (pc := 22) (pc' := 24) (.int (nI 7)) rfl rfl rfl rfl ?_
      refine x_iushrV (pc := 24) (v := nI (m / 128)) rfl (pk_ushrN hm2 _ 7 (by decide)) ?_
      refine x_is1 (pc := 25) (ml' := [some (.ref 67), some (.int x0), some (.int (nI (m / 128)))]) rfl rfl ?_
      refine x_step (pc := 26) (pc' := 2) rfl rfl rfl rfl ?_
      have ev : l ++ vE (f + 1) m = l ++ [b8 (nI (m % 128 + 128))] ++ vE f (m / 128) := by
        conv => lhs; unfold vE
        rw [if_neg c6, b8_nI, show (m % 128 + 128) % 256 = m % 128 + 128 by omega]
        simp
      rw [ev] at kk
      have hq : m / 128 < 2 ^ (4 + 7 * f) := by
        have e : 2 ^ (4 + 7 * (f + 1)) = 2 ^ (4 + 7 * f) * 128 := by rw [show 4 + 7 * (f + 1) = 4 + 7 * f + 7 by omega, Nat.pow_add]
        rw [e] at hm
        exact Nat.div_lt_of_lt_mul (by rw [Nat.mul_comm]; exact hm)
      exact ih (m / 128) _ (I := I1) (A := A1) (by omega) hq (by simp; omega) h1 (fun I2 A2 f2 g2 h2 => kk I2 A2 (Fr_cons f1 f2 (by decide)) (Fr_cons g1 g2 (by decide)) h2)
set_option maxRecDepth 100000 in
set_option maxHeartbeats 4000000 in
theorem k_129 {m : Nat} {l : List Nat} (hT : Tp I A l) (hl : l.length < 590) (hm : m < 2 ^ 32) {Q : mO × mHp → Prop} (kk : ∀ I' A', Fr [68] I I' → Fr [54] A A' → Tp I' A' (l ++ vE 4 m) → Q (.inl none, hS n u I' A' J B mk sn L xs X)) : mq 129 0 [some (.ref 67), some (.int (nI m)), none] [] (hS n u I A J B mk sn L xs X) Q := by
  refine x_il1 (pc := 0) rfl rfl ?_
  refine x_is1 (pc := 1) (ml' := [some (.ref 67), some (.int (nI m)), some (.int (nI m))]) rfl rfl ?_
  exact l_129 4 m l hm hm (by omega) hT kk
set_option maxRecDepth 100000 in
set_option maxHeartbeats 4000000 in
theorem k_130 {x : Int32} {l : List Nat} (hT : Tp I A l) (hl : l.length < 590) {Q : mO × mHp → Prop} (kk : ∀ I' A', Fr [68] I I' → Fr [54] A A' → Tp I' A' (l ++ vE 4 (zN x)) → Q (.inl none, hS n u I' A' J B mk sn L xs X)) : mq 130 0 [some (.ref 67), some (.int x)] [] (hS n u I A J B mk sn L xs X) Q := by
  refine x_al1 (pc := 0) rfl rfl ?_
  refine x_il1 (pc := 1) rfl rfl ?_
  refine x_if_ge (pc := 2) (t := 15) rfl rfl rfl (fun c2 => ?_) (fun c2 => ?_)
  · refine x_il1 (pc := 15) rfl rfl ?_
    refine x_const (pc := 16) (pc' := 17) (.int (nI 1)) rfl rfl rfl rfl ?_
    refine x_ishlV (pc := 17) (v := nI (zN x)) rfl ((zz_pos c2).trans (nI_uN (zz x)).symm) ?_
    refine x_k (pc := 18) rfl rfl rfl ⟨Nat.le_of_ble_eq_true rfl, Nat.le_of_ble_eq_true rfl, Nat.le_of_ble_eq_true rfl⟩ rfl (k_129 (I := I) (A := A) (m := zN x) hT hl (uN_lt _) (fun I1 A1 f1 g1 h1 => ?_))
    show mq 130 21 [some (.ref 67), some (.int x)] [] (hS n u I1 A1 J B mk sn L xs X) _
    refine x_ret (pc := 21) rfl rfl ?_
    exact kk I1 A1 f1 g1 h1
  · refine x_il1 (pc := 5) rfl rfl ?_
    refine x_const (pc := 6) (pc' := 7) (.int (-1)) rfl rfl rfl rfl ?_
    refine x_ixor (pc := 7) rfl rfl ?_
    refine x_const (pc := 8) (pc' := 9) (.int (nI 1)) rfl rfl rfl rfl ?_
    refine x_ishl (pc := 9) rfl rfl ?_
    refine x_const (pc := 10) (pc' := 11) (.int (nI 1)) rfl rfl rfl rfl ?_
    refine x_iorV (pc := 11) (v := nI (zN x)) rfl ((zz_neg (Int32.not_le.mp c2)).trans (nI_uN (zz x)).symm) ?_
    refine x_step (pc := 12) (pc' := 18) rfl rfl rfl rfl ?_
    refine x_k (pc := 18) rfl rfl rfl ⟨Nat.le_of_ble_eq_true rfl, Nat.le_of_ble_eq_true rfl, Nat.le_of_ble_eq_true rfl⟩ rfl (k_129 (I := I) (A := A) (m := zN x) hT hl (uN_lt _) (fun I1 A1 f1 g1 h1 => ?_))
    show mq 130 21 [some (.ref 67), some (.int x)] [] (hS n u I1 A1 J B mk sn L xs X) _
    refine x_ret (pc := 21) rfl rfl ?_
    exact kk I1 A1 f1 g1 h1
end S45
