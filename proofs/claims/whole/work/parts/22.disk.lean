/-! The disk: reads. -/
abbrev hS (n u : Nat) (I : Nat → Int32) (A : Nat → Nat → Int32) (J : Int64) (B : Nat → Int64) (mk sn L : Nat) (xs : Nat → Int32) (X : Nat → mC) : mHp := (n, u, HPf (HPl I A J B mk sn L xs) X)
def dAt (d : Nat → Int32) (p : Int32) : Int32 := if p < 0 then 0 else if 2048 ≤ p then 0 else d p.toNatClampNeg
section C22
variable {n u : Nat} {I : Nat → Int32} {A : Nat → Nat → Int32} {J : Int64} {B : Nat → Int64} {mk sn L : Nat} {xs : Nat → Int32} {X : Nat → mC}
theorem dAt_in {p : Int32} (h1 : ¬ p < 0) (h2 : ¬ Int32.ofNat 2048 ≤ p) : mIn p 2048 = true := by
  obtain ⟨j, hj, rfl⟩ := nI_of h1
  have h3 : j < 2048 := Nat.not_le.mp fun q => h2 (nI_le q hj)
  simp only [mIn, Bool.and_eq_true, Bool.not_eq_true', decide_eq_false_iff_not, decide_eq_true_eq]
  exact ⟨h1, by rw [nI_clamp hj]; exact h3⟩
set_option maxRecDepth 100000 in
set_option maxHeartbeats 4000000 in
theorem c_21 (p : Int32) : mq 21 0 (ment 2 [.ref 2, .int p]) [] (hS n u I A J B mk sn L xs X) (fun r => r = (.inl (some (.int (dAt (A 0) p))), hS n u I A J B mk sn L xs X)) := by
  refine x_step (pc := 0) (pc' := 1) rfl rfl rfl rfl ?_
  refine x_if_lt (pc := 1) (t := 22) rfl rfl rfl (fun h1 => ?_) (fun h1 => ?_)
  · refine x_const (pc := 22) (pc' := 23) (.int 0) rfl rfl rfl rfl ?_
    refine x_ret (pc := 23) rfl rfl ?_
    unfold dAt
    rw [if_pos h1]
  · refine x_step (pc := 4) (pc' := 5) rfl rfl rfl rfl ?_
    refine x_step (pc := 5) (pc' := 6) rfl rfl rfl rfl ?_
    refine x_step (pc := 6) (pc' := 9) rfl rfl rfl rfl ?_
    refine x_step (pc := 9) (pc' := 10) rfl rfl rfl rfl ?_
    refine x_cmp_ge (pc := 10) (t := 22) rfl rfl rfl (fun h10 => ?_) (fun h10 => ?_)
    · refine x_const (pc := 22) (pc' := 23) (.int 0) rfl rfl rfl rfl ?_
      refine x_ret (pc := 23) rfl rfl ?_
      unfold dAt
      rw [if_neg h1, if_pos (show (2048 : Int32) ≤ p from h10)]
    · refine x_step (pc := 13) (pc' := 14) rfl rfl rfl rfl ?_
      refine x_step (pc := 14) (pc' := 17) rfl rfl rfl rfl ?_
      refine x_step (pc := 17) (pc' := 18) rfl rfl rfl rfl ?_
      refine x_ald (pc := 18) rfl rfl rfl (dAt_in h1 h10) ?_
      refine x_step (pc := 19) (pc' := 23) rfl rfl rfl rfl ?_
      refine x_ret (pc := 23) rfl rfl ?_
      unfold dAt
      rw [if_neg h1, if_neg (show ¬ (2048 : Int32) ≤ p from h10)]
set_option maxRecDepth 100000 in
set_option maxHeartbeats 4000000 in
theorem c_20 (s : Int32) : mq 20 0 (ment 2 [.ref 2, .int s]) [] (hS n u I A J B mk sn L xs X) (fun r => r = (.inl (some (.int (dAt (A 0) (s * 128 + 2)))), hS n u I A J B mk sn L xs X)) := by
  refine x_step (pc := 0) (pc' := 1) rfl rfl rfl rfl ?_
  refine x_step (pc := 1) (pc' := 2) rfl rfl rfl rfl ?_
  refine x_const (pc := 2) (pc' := 5) (.int 128) rfl rfl rfl rfl ?_
  refine x_imul (pc := 5) rfl rfl ?_
  refine x_const (pc := 6) (pc' := 7) (.int 2) rfl rfl rfl rfl ?_
  refine x_iadd (pc := 7) rfl rfl ?_
  refine x_call (pc := 8) rfl rfl rfl ⟨Nat.le_of_ble_eq_true rfl, Nat.le_of_ble_eq_true rfl, Nat.le_of_ble_eq_true rfl⟩ (c_21 _) ?_
  refine x_ret (pc := 11) rfl rfl ?_
  exact rfl
set_option maxRecDepth 100000 in
set_option maxHeartbeats 4000000 in
theorem c_23 (s : Int32) : mq 23 0 (ment 2 [.ref 2, .int s]) [] (hS n u I A J B mk sn L xs X) (fun r => r = (.inl (some (.int (dAt (A 0) (s * 128 + 3)))), hS n u I A J B mk sn L xs X)) := by
  refine x_step (pc := 0) (pc' := 1) rfl rfl rfl rfl ?_
  refine x_step (pc := 1) (pc' := 2) rfl rfl rfl rfl ?_
  refine x_const (pc := 2) (pc' := 5) (.int 128) rfl rfl rfl rfl ?_
  refine x_imul (pc := 5) rfl rfl ?_
  refine x_const (pc := 6) (pc' := 7) (.int 3) rfl rfl rfl rfl ?_
  refine x_iadd (pc := 7) rfl rfl ?_
  refine x_call (pc := 8) rfl rfl rfl ⟨Nat.le_of_ble_eq_true rfl, Nat.le_of_ble_eq_true rfl, Nat.le_of_ble_eq_true rfl⟩ (c_21 _) ?_
  refine x_ret (pc := 11) rfl rfl ?_
  exact rfl
end C22
