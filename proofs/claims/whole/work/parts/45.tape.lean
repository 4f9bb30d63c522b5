/-! Zigzag; the model's tape. -/
/-- a whole number as its 32 bits -/
def uN (x : Int32) : Nat := x.toBitVec.toNat
theorem uN_lt (x : Int32) : uN x < 2 ^ 32 := x.toBitVec.isLt
theorem nI_uN (x : Int32) : nI (uN x) = x := by
  apply Int32.toBitVec_inj.mp
  apply BitVec.eq_of_toNat_eq
  show (BitVec.ofNat 32 x.toBitVec.toNat).toNat = x.toBitVec.toNat
  rw [BitVec.toNat_ofNat]
  exact Nat.mod_eq_of_lt x.toBitVec.isLt
theorem uN_nI {m : Nat} (h : m < 2 ^ 32) : uN (nI m) = m := pk_tn h
def zz (x : Int32) : Int32 := x <<< ((1 : Int32) &&& 31) ^^^ x >>> ((31 : Int32) &&& 31)
def zN (x : Int32) : Nat := uN (zz x)
theorem zz_pos {x : Int32} (h : 0 ≤ x) : x <<< ((1 : Int32) &&& 31) = zz x := by
  have h0 : x >>> ((31 : Int32) &&& 31) = 0 := by
    apply Int32.toInt_inj.mp
    rw [pk_shr x _ 31 (by decide)]
    have h1 := Int32.le_iff_toInt_le.mp h
    have h2 : x.toInt < 2 ^ 31 := Int32.toInt_lt x
    have h3 : (0 : Int32).toInt = 0 := rfl
    rw [h3] at h1
    rw [Int.shiftRight_eq_div_pow, h3]
    omega
  unfold zz
  rw [h0, Int32.xor_zero]
theorem zz_neg {x : Int32} (h : x < 0) : (x ^^^ (-1)) <<< ((1 : Int32) &&& 31) ||| 1 = zz x := by
  have h0 : x >>> ((31 : Int32) &&& 31) = -1 := by
    apply Int32.toInt_inj.mp
    rw [pk_shr x _ 31 (by decide)]
    have h1 := Int32.lt_iff_toInt_lt.mp h
    have h2 : -2 ^ 31 ≤ x.toInt := Int32.le_toInt x
    have h3 : (0 : Int32).toInt = 0 := rfl
    have h4 : (-1 : Int32).toInt = -1 := rfl
    rw [h3] at h1
    rw [Int.shiftRight_eq_div_pow, h4]
    omega
  unfold zz
  rw [h0]
  have key : ∀ y : BitVec 32, (y ^^^ BitVec.allOnes 32) <<< 1 ||| 1#32 = y <<< 1 ^^^ BitVec.allOnes 32 := by
    intro y
    apply BitVec.eq_of_getLsbD_eq
    intro i hi
    simp only [BitVec.getLsbD_or, BitVec.getLsbD_shiftLeft, BitVec.getLsbD_xor, BitVec.getLsbD_allOnes, BitVec.getLsbD_one]
    rcases Nat.eq_zero_or_pos i with q | q
    · subst q
      simp
    · have q1 : ¬ i < 1 := by omega
      have q2 : ¬ i = 0 := by omega
      simp [q1, q2, hi, show i - 1 < 32 by omega]
  apply Int32.toBitVec_inj.mp
  exact key x.toBitVec
section S45
variable {n u : Nat} {I : Nat → Int32} {A : Nat → Nat → Int32} {J : Int64} {B : Nat → Int64} {mk sn L : Nat} {xs : Nat → Int32} {X : Nat → mC} {D : Nat → Nat} 
set_option maxRecDepth 100000 in
set_option maxHeartbeats 4000000 in
theorem k_69 {x : Int32} {Q : mO × mHp → Prop} (kk : Q (.inl (some (.int (nI (zN x)))), hS n u I A J B mk sn L xs X)) : mq 69 0 [some (.int x)] [] (hS n u I A J B mk sn L xs X) Q := by
  refine x_il1 (pc := 0) rfl rfl ?_
  refine x_const (pc := 1) (pc' := 2) (.int (nI 1)) rfl rfl rfl rfl ?_
  refine x_ishl (pc := 2) rfl rfl ?_
  refine x_il1 (pc := 3) rfl rfl ?_
  refine x_const (pc := 4) (pc' := 6) (.int (nI 31)) rfl rfl rfl rfl ?_
  refine x_ishr (pc := 6) rfl rfl ?_
  refine x_ixorV (pc := 7) (v := nI (zN x)) rfl ((nI_uN (zz x)).symm) ?_
  refine x_ret (pc := 8) rfl rfl ?_
  exact kk
end S45
