/-! The disk: reads. -/
abbrev hS (n u : Nat) (I : Nat → Int32) (A : Nat → Nat → Int32) (J : Int64) (B : Nat → Int64) (mk sn L : Nat) (xs : Nat → Int32) (X : Nat → mC) : mHp := (n, u, HPf (HPl I A J B mk sn L xs) X)
def dAt (d : Nat → Int32) (p : Int32) : Int32 := if p < 0 then 0 else if 2048 ≤ p then 0 else d p.toNatClampNeg
theorem mIn_nI {j n : Nat} (h : j < n) (hn : n < 2 ^ 31) : mIn (nI j) n = true := by
  simp only [mIn, Bool.and_eq_true, Bool.not_eq_true', decide_eq_false_iff_not, decide_eq_true_eq]
  exact ⟨nI_pos (by omega), by rw [nI_clamp (by omega)]; exact h⟩
theorem dAt_in {p : Int32} (h1 : ¬ p < 0) (h2 : ¬ Int32.ofNat 2048 ≤ p) : mIn p 2048 = true := by
  obtain ⟨j, hj, rfl⟩ := nI_of h1
  exact mIn_nI (Nat.not_le.mp fun q => h2 (nI_le q hj)) (by decide)
theorem nI_or (a b : Nat) : nI a ||| nI b = nI (a ||| b) := by
  apply Int32.toBitVec_inj.mp
  show BitVec.ofNat 32 a ||| BitVec.ofNat 32 b = BitVec.ofNat 32 (a ||| b)
  apply BitVec.eq_of_toNat_eq
  simp [Nat.or_mod_two_pow]
theorem nI_oradd {a b k : Nat} (h : b < 2 ^ k) : nI (a * 2 ^ k) ||| nI b = nI (a * 2 ^ k + b) := by
  rw [nI_or, ← Nat.shiftLeft_eq, Nat.shiftLeft_add_eq_or_of_lt h]
/-- the disk holds the bytes D -/
def DK (d : Nat → Int32) (D : Nat → Nat) : Prop := d = (fun j => nI (D j)) ∧ (∀ j, D j < 256) ∧ ∀ j, 2048 ≤ j → D j = 0
theorem dAt_D {d : Nat → Int32} {D : Nat → Nat} (h : DK d D) {p : Nat} (hp : p < 2 ^ 31) : dAt d (nI p) = nI (D p) := by
  unfold dAt
  rw [if_neg (nI_pos hp)]
  by_cases h1 : 2048 ≤ p
  · rw [if_pos (show (2048 : Int32) ≤ nI p from nI_le h1 hp), h.2.2 p h1]
    rfl
  · rw [if_neg (show ¬ (2048 : Int32) ≤ nI p from nI_ge (a := p) (b := 2048) (Nat.not_le.mp h1) (by decide)), nI_clamp hp, h.1]
def oB (D : Nat → Nat) (k : Nat) : Nat := D (128 * k + 2)
def gB (D : Nat → Nat) (k : Nat) : Nat := D (128 * k + 3)
def mB (D : Nat → Nat) (k : Nat) : Nat := D (128 * k) * 256 + D (128 * k + 1)
def bB (D : Nat → Nat) (k : Nat) : Nat := D (128 * k + 4) * 2 ^ 24 + D (128 * k + 5) * 2 ^ 16 + D (128 * k + 6) * 2 ^ 8 + D (128 * k + 7)
theorem nI_128 (k c : Nat) : nI k * 128 + nI c = nI (128 * k + c) := by
  rw [show (128 : Int32) = nI 128 from rfl, pk_mul, nI_add, Nat.mul_comm]
theorem nI_128' (k : Nat) : nI k * 128 = nI (128 * k) := by
  rw [show (128 : Int32) = nI 128 from rfl, pk_mul, Nat.mul_comm]
theorem mB_eq {D : Nat → Nat} (h : ∀ j, D j < 256) (k : Nat) : nI (D (128 * k)) <<< ((8 : Int32) &&& 31) ||| nI (D (128 * k + 1)) = nI (mB D k) := by
  have h1 := h (128 * k)
  have h2 := h (128 * k + 1)
  rw [pk_shlN (n := D (128 * k)) ((8 : Int32) &&& 31) 8 (by decide) (by omega)]
  exact nI_oradd (k := 8) (by omega)
theorem bB_eq {D : Nat → Nat} (h : ∀ j, D j < 256) (k : Nat) : ((nI (D (128 * k + 4)) <<< ((24 : Int32) &&& 31) ||| nI (D (128 * k + 5)) <<< ((16 : Int32) &&& 31)) ||| nI (D (128 * k + 6)) <<< ((8 : Int32) &&& 31)) ||| nI (D (128 * k + 7)) = nI (bB D k) := by
  have h1 := h (128 * k + 4)
  have h2 := h (128 * k + 5)
  have h3 := h (128 * k + 6)
  have h4 := h (128 * k + 7)
  rw [pk_shlN (n := D (128 * k + 4)) ((24 : Int32) &&& 31) 24 (by decide) (by omega), pk_shlN (n := D (128 * k + 5)) ((16 : Int32) &&& 31) 16 (by decide) (by omega), pk_shlN (n := D (128 * k + 6)) ((8 : Int32) &&& 31) 8 (by decide) (by omega)]
  rw [nI_oradd (k := 24) (show D (128 * k + 5) * 2 ^ 16 < 2 ^ 24 by omega)]
  rw [show D (128 * k + 4) * 2 ^ 24 + D (128 * k + 5) * 2 ^ 16 = (D (128 * k + 4) * 2 ^ 8 + D (128 * k + 5)) * 2 ^ 16 by omega, nI_oradd (k := 16) (show D (128 * k + 6) * 2 ^ 8 < 2 ^ 16 by omega)]
  rw [show (D (128 * k + 4) * 2 ^ 8 + D (128 * k + 5)) * 2 ^ 16 + D (128 * k + 6) * 2 ^ 8 = ((D (128 * k + 4) * 2 ^ 8 + D (128 * k + 5)) * 2 ^ 8 + D (128 * k + 6)) * 2 ^ 8 by omega, nI_oradd (k := 8) (show D (128 * k + 7) < 2 ^ 8 by omega)]
  exact congrArg nI (by unfold bB; omega)
section C22
variable {n u : Nat} {I : Nat → Int32} {A : Nat → Nat → Int32} {J : Int64} {B : Nat → Int64} {mk sn L : Nat} {xs : Nat → Int32} {X : Nat → mC} {D : Nat → Nat}
set_option maxRecDepth 100000 in
set_option maxHeartbeats 4000000 in
theorem c_21 (p : Int32) : mq 21 0 (ment 2 [.ref 2, .int p]) [] (hS n u I A J B mk sn L xs X) (fun r => r = (.inl (some (.int (dAt (A 0) p))), hS n u I A J B mk sn L xs X)) := by
  refine x_step (pc := 0) (pc' := 1) rfl rfl rfl rfl ?_
  refine x_if_lt (pc := 1) (t := 22) rfl rfl rfl (fun h1 => ?_) (fun h1 => ?_)
  · refine x_const (pc := 22) (pc' := 23) (.int 0) rfl rfl rfl rfl ?_
    refine x_ret (pc := 23) rfl rfl ?_
    unfold dAt
    rw [if_pos h1]
  · refine x_step (pc := 4) (pc' := 5) rfl rfl rfl rfl ?_
    refine x_step (pc := 5) (pc' := 6) rfl rfl rfl rfl ?_
    refine x_step (pc := 6) (pc' := 9) rfl rfl rfl rfl ?_
    refine x_step (pc := 9) (pc' := 10) rfl rfl rfl rfl ?_
    refine x_cmp_ge (pc := 10) (t := 22) rfl rfl rfl (fun h10 => ?_) (fun h10 => ?_)
    · refine x_const (pc := 22) (pc' := 23) (.int 0) rfl rfl rfl rfl ?_
      refine x_ret (pc := 23) rfl rfl ?_
      unfold dAt
      rw [if_neg h1, if_pos (show (2048 : Int32) ≤ p from h10)]
    · refine x_step (pc := 13) (pc' := 14) rfl rfl rfl rfl ?_
      refine x_step (pc := 14) (pc' := 17) rfl rfl rfl rfl ?_
      refine x_step (pc := 17) (pc' := 18) rfl rfl rfl rfl ?_
      refine x_ald (pc := 18) rfl rfl rfl (dAt_in h1 h10) ?_
      refine x_step (pc := 19) (pc' := 23) rfl rfl rfl rfl ?_
      refine x_ret (pc := 23) rfl rfl ?_
      unfold dAt
      rw [if_neg h1, if_neg (show ¬ (2048 : Int32) ≤ p from h10)]
set_option maxRecDepth 100000 in
set_option maxHeartbeats 4000000 in
theorem c_21D (h : DK (A 0) D) {p : Nat} (hp : p < 2 ^ 31) : mq 21 0 (ment 2 [.ref 2, .int (nI p)]) [] (hS n u I A J B mk sn L xs X) (fun r => r = (.inl (some (.int (nI (D p)))), hS n u I A J B mk sn L xs X)) := by
  rw [← dAt_D h hp]
  exact c_21 _
set_option maxRecDepth 100000 in
set_option maxHeartbeats 4000000 in
theorem c_20 (h : DK (A 0) D) {k : Nat} (hk : k < 16) : mq 20 0 (ment 2 [.ref 2, .int (nI k)]) [] (hS n u I A J B mk sn L xs X) (fun r => r = (.inl (some (.int (nI (oB D k)))), hS n u I A J B mk sn L xs X)) := by
  refine x_step (pc := 0) (pc' := 1) rfl rfl rfl rfl ?_
  refine x_step (pc := 1) (pc' := 2) rfl rfl rfl rfl ?_
  refine x_const (pc := 2) (pc' := 5) (.int 128) rfl rfl rfl rfl ?_
  refine x_imul (pc := 5) rfl rfl ?_
  refine x_const (pc := 6) (pc' := 7) (.int 2) rfl rfl rfl rfl ?_
  refine x_iadd (pc := 7) rfl rfl ?_
  refine x_call (pc := 8) rfl rfl rfl ⟨Nat.le_of_ble_eq_true rfl, Nat.le_of_ble_eq_true rfl, Nat.le_of_ble_eq_true rfl⟩ (by rw [show nI k * 128 + 2 = nI (128 * k + 2) from nI_128 k 2]; exact c_21D h (by omega)) ?_
  refine x_ret (pc := 11) rfl rfl ?_
  exact rfl
set_option maxRecDepth 100000 in
set_option maxHeartbeats 4000000 in
theorem c_23 (h : DK (A 0) D) {k : Nat} (hk : k < 16) : mq 23 0 (ment 2 [.ref 2, .int (nI k)]) [] (hS n u I A J B mk sn L xs X) (fun r => r = (.inl (some (.int (nI (gB D k)))), hS n u I A J B mk sn L xs X)) := by
  refine x_step (pc := 0) (pc' := 1) rfl rfl rfl rfl ?_
  refine x_step (pc := 1) (pc' := 2) rfl rfl rfl rfl ?_
  refine x_const (pc := 2) (pc' := 5) (.int 128) rfl rfl rfl rfl ?_
  refine x_imul (pc := 5) rfl rfl ?_
  refine x_const (pc := 6) (pc' := 7) (.int 3) rfl rfl rfl rfl ?_
  refine x_iadd (pc := 7) rfl rfl ?_
  refine x_call (pc := 8) rfl rfl rfl ⟨Nat.le_of_ble_eq_true rfl, Nat.le_of_ble_eq_true rfl, Nat.le_of_ble_eq_true rfl⟩ (by rw [show nI k * 128 + 3 = nI (128 * k + 3) from nI_128 k 3]; exact c_21D h (by omega)) ?_
  refine x_ret (pc := 11) rfl rfl ?_
  exact rfl
set_option maxRecDepth 100000 in
set_option maxHeartbeats 4000000 in
theorem c_37 (h : DK (A 0) D) {k : Nat} (hk : k < 16) : mq 37 0 (ment 2 [.ref 2, .int (nI k)]) [] (hS n u I A J B mk sn L xs X) (fun r => r = (.inl (some (.int (nI (mB D k)))), hS n u I A J B mk sn L xs X)) := by
  refine x_step (pc := 0) (pc' := 1) rfl rfl rfl rfl ?_
  refine x_step (pc := 1) (pc' := 2) rfl rfl rfl rfl ?_
  refine x_const (pc := 2) (pc' := 5) (.int 128) rfl rfl rfl rfl ?_
  refine x_imul (pc := 5) rfl rfl ?_
  refine x_call (pc := 6) rfl rfl rfl ⟨Nat.le_of_ble_eq_true rfl, Nat.le_of_ble_eq_true rfl, Nat.le_of_ble_eq_true rfl⟩ (by rw [nI_128' k]; exact c_21D h (by omega)) ?_
  refine x_const (pc := 9) (pc' := 11) (.int 8) rfl rfl rfl rfl ?_
  refine x_ishl (pc := 11) rfl rfl ?_
  refine x_step (pc := 12) (pc' := 13) rfl rfl rfl rfl ?_
  refine x_step (pc := 13) (pc' := 14) rfl rfl rfl rfl ?_
  refine x_const (pc := 14) (pc' := 17) (.int 128) rfl rfl rfl rfl ?_
  refine x_imul (pc := 17) rfl rfl ?_
  refine x_const (pc := 18) (pc' := 19) (.int 1) rfl rfl rfl rfl ?_
  refine x_iadd (pc := 19) rfl rfl ?_
  refine x_call (pc := 20) rfl rfl rfl ⟨Nat.le_of_ble_eq_true rfl, Nat.le_of_ble_eq_true rfl, Nat.le_of_ble_eq_true rfl⟩ (by rw [show nI k * 128 + 1 = nI (128 * k + 1) from nI_128 k 1]; exact c_21D h (by omega)) ?_
  refine x_ior (pc := 23) rfl rfl ?_
  refine x_ret (pc := 24) rfl rfl ?_
  rw [mB_eq h.2.1]
set_option maxRecDepth 100000 in
set_option maxHeartbeats 4000000 in
theorem c_22 (h : DK (A 0) D) {k : Nat} (hk : k < 16) : mq 22 0 (ment 3 [.ref 2, .int (nI k)]) [] (hS n u I A J B mk sn L xs X) (fun r => r = (.inl (some (.int (nI (bB D k)))), hS n u I A J B mk sn L xs X)) := by
  refine x_step (pc := 0) (pc' := 1) rfl rfl rfl rfl ?_
  refine x_const (pc := 1) (pc' := 4) (.int 128) rfl rfl rfl rfl ?_
  refine x_imul (pc := 4) rfl rfl ?_
  refine x_const (pc := 5) (pc' := 6) (.int 4) rfl rfl rfl rfl ?_
  refine x_iadd (pc := 6) rfl rfl ?_
  refine x_step (pc := 7) (pc' := 8) rfl rfl rfl rfl ?_
  refine x_step (pc := 8) (pc' := 9) rfl rfl rfl rfl ?_
  refine x_step (pc := 9) (pc' := 10) rfl rfl rfl rfl ?_
  refine x_call (pc := 10) rfl rfl rfl ⟨Nat.le_of_ble_eq_true rfl, Nat.le_of_ble_eq_true rfl, Nat.le_of_ble_eq_true rfl⟩ (by rw [show nI k * 128 + 4 = nI (128 * k + 4) from nI_128 k 4]; exact c_21D h (by omega)) ?_
  refine x_const (pc := 13) (pc' := 15) (.int 24) rfl rfl rfl rfl ?_
  refine x_ishl (pc := 15) rfl rfl ?_
  refine x_step (pc := 16) (pc' := 17) rfl rfl rfl rfl ?_
  refine x_step (pc := 17) (pc' := 18) rfl rfl rfl rfl ?_
  refine x_const (pc := 18) (pc' := 19) (.int 1) rfl rfl rfl rfl ?_
  refine x_iadd (pc := 19) rfl rfl ?_
  refine x_call (pc := 20) rfl rfl rfl ⟨Nat.le_of_ble_eq_true rfl, Nat.le_of_ble_eq_true rfl, Nat.le_of_ble_eq_true rfl⟩ (by rw [show nI k * 128 + 4 + 1 = nI (128 * k + 5) from by rw [show nI k * 128 + 4 = nI (128 * k + 4) from nI_128 k 4]; exact nI_1 _]; exact c_21D h (by omega)) ?_
  refine x_const (pc := 23) (pc' := 25) (.int 16) rfl rfl rfl rfl ?_
  refine x_ishl (pc := 25) rfl rfl ?_
  refine x_ior (pc := 26) rfl rfl ?_
  refine x_step (pc := 27) (pc' := 28) rfl rfl rfl rfl ?_
  refine x_step (pc := 28) (pc' := 29) rfl rfl rfl rfl ?_
  refine x_const (pc := 29) (pc' := 30) (.int 2) rfl rfl rfl rfl ?_
  refine x_iadd (pc := 30) rfl rfl ?_
  refine x_call (pc := 31) rfl rfl rfl ⟨Nat.le_of_ble_eq_true rfl, Nat.le_of_ble_eq_true rfl, Nat.le_of_ble_eq_true rfl⟩ (by rw [show nI k * 128 + 4 + 2 = nI (128 * k + 6) from by rw [show nI k * 128 + 4 = nI (128 * k + 4) from nI_128 k 4]; exact nI_add _ 2]; exact c_21D h (by omega)) ?_
  refine x_const (pc := 34) (pc' := 36) (.int 8) rfl rfl rfl rfl ?_
  refine x_ishl (pc := 36) rfl rfl ?_
  refine x_ior (pc := 37) rfl rfl ?_
  refine x_step (pc := 38) (pc' := 39) rfl rfl rfl rfl ?_
  refine x_step (pc := 39) (pc' := 40) rfl rfl rfl rfl ?_
  refine x_const (pc := 40) (pc' := 41) (.int 3) rfl rfl rfl rfl ?_
  refine x_iadd (pc := 41) rfl rfl ?_
  refine x_call (pc := 42) rfl rfl rfl ⟨Nat.le_of_ble_eq_true rfl, Nat.le_of_ble_eq_true rfl, Nat.le_of_ble_eq_true rfl⟩ (by rw [show nI k * 128 + 4 + 3 = nI (128 * k + 7) from by rw [show nI k * 128 + 4 = nI (128 * k + 4) from nI_128 k 4]; exact nI_add _ 3]; exact c_21D h (by omega)) ?_
  refine x_ior (pc := 45) rfl rfl ?_
  refine x_ret (pc := 46) rfl rfl ?_
  rw [bB_eq h.2.1]
end C22
