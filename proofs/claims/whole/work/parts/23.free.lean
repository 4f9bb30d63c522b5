/-! Free slots; the model's reads of its disk. -/
theorem nI_z {m : Nat} (h : m < 2 ^ 31) : nI m = 0 ↔ m = 0 := nI_eq h (by decide)
theorem nI_16 {i : Nat} (h : i < 16) : ¬ (16 : Int32) ≤ nI i := nI_ge (a := i) (b := 16) h (by decide)
theorem oB_lt {D : Nat → Nat} (h : ∀ j, D j < 256) (k : Nat) : oB D k < 2 ^ 31 := Nat.lt_trans (h _) (by decide)
theorem mB_lt {D : Nat → Nat} (h : ∀ j, D j < 256) (k : Nat) : mB D k < 65536 := by
  have h1 := h (128 * k)
  have h2 := h (128 * k + 1)
  unfold mB
  omega
/-- the first free slot from i on, among m -/
def frS (D : Nat → Nat) : Nat → Nat → Int32
  | 0, _ => -1
  | m + 1, i => if oB D i = 0 then nI i else frS D m (i + 1)
/-- free slots from i on, among m -/
def fcS (D : Nat → Nat) : Nat → Nat → Nat
  | 0, _ => 0
  | m + 1, i => (if oB D i = 0 then 1 else 0) + fcS D m (i + 1)
theorem m128 (k c : Nat) : 128 * nI k + nI c = nI (128 * k + c) := by
  rw [show (128 : Int32) = nI 128 from rfl, pk_mul, nI_add]
theorem m128' (k : Nat) : 128 * nI k = nI (128 * k) := by
  rw [show (128 : Int32) = nI 128 from rfl, pk_mul]
theorem mB_eq2 {D : Nat → Nat} (k : Nat) : 256 * nI (D (128 * k)) + nI (D (128 * k + 1)) = nI (mB D k) := by
  rw [show (256 : Int32) = nI 256 from rfl, pk_mul, nI_add]
  exact congrArg nI (by unfold mB; omega)
section S23
variable {n u : Nat} {I : Nat → Int32} {A : Nat → Nat → Int32} {J : Int64} {B : Nat → Int64} {mk sn L : Nat} {xs : Nat → Int32} {X : Nat → mC} {D : Nat → Nat} 
set_option maxRecDepth 100000 in
set_option maxHeartbeats 4000000 in
theorem l_71 (h : DK (A 0) D) : ∀ (m i : Nat), i + m = 16 → mq 71 2 [some (.ref 2), some (.int (nI i))] [] (hS n u I A J B mk sn L xs X) (fun r => r = (.inl (some (.int (frS D m i))), hS n u I A J B mk sn L xs X)) := by
  intro m
  induction m with
  | zero =>
    intro i hi
    have hi : i = 16 := by omega
    subst hi
    refine x_step (pc := 2) (pc' := 3) rfl rfl rfl rfl ?_
    refine x_const (pc := 3) (pc' := 5) (.int 16) rfl rfl rfl rfl ?_
    refine x_cmp_ge (pc := 5) (t := 24) rfl rfl rfl (fun h5 => ?_) (fun h5 => ?_)
    · refine x_const (pc := 24) (pc' := 25) (.int (-1)) rfl rfl rfl rfl ?_
      refine x_ret (pc := 25) rfl rfl ?_
      exact rfl
    · exact absurd (show (16 : Int32) ≤ nI 16 from by decide) h5
  | succ m ih =>
    intro i hi
    refine x_step (pc := 2) (pc' := 3) rfl rfl rfl rfl ?_
    refine x_const (pc := 3) (pc' := 5) (.int 16) rfl rfl rfl rfl ?_
    refine x_cmp_ge (pc := 5) (t := 24) rfl rfl rfl (fun h5 => ?_) (fun h5 => ?_)
    · exact absurd h5 (nI_16 (by omega))
    · refine x_step (pc := 8) (pc' := 9) rfl rfl rfl rfl ?_
      refine x_step (pc := 9) (pc' := 10) rfl rfl rfl rfl ?_
      refine x_call (pc := 10) rfl rfl rfl ⟨Nat.le_of_ble_eq_true rfl, Nat.le_of_ble_eq_true rfl, Nat.le_of_ble_eq_true rfl⟩ (c_20 h (by omega)) ?_
      refine x_if_ne (pc := 13) (t := 18) rfl rfl rfl (fun h13 => ?_) (fun h13 => ?_)
      · unfold frS
        rw [if_neg (fun q => h13 ((nI_z (oB_lt h.2.1 i)).mpr q))]
        refine x_iinc (pc := 18) 1 rfl rfl rfl rfl ?_
        refine x_step (pc := 21) (pc' := 2) rfl rfl rfl rfl ?_
        rw [show nI i + 1 = nI (i + 1) from nI_1 i]
        exact ih (i + 1) (by omega)
      · unfold frS
        refine x_step (pc := 16) (pc' := 17) rfl rfl rfl rfl ?_
        refine x_ret (pc := 17) rfl rfl ?_
        rw [if_pos ((nI_z (oB_lt h.2.1 i)).mp h13)]
set_option maxRecDepth 100000 in
set_option maxHeartbeats 4000000 in
theorem c_71 (h : DK (A 0) D) : mq 71 0 (ment 2 [.ref 2]) [] (hS n u I A J B mk sn L xs X) (fun r => r = (.inl (some (.int (frS D 16 0))), hS n u I A J B mk sn L xs X)) := by
  refine x_const (pc := 0) (pc' := 1) (.int 0) rfl rfl rfl rfl ?_
  refine x_step (pc := 1) (pc' := 2) rfl rfl rfl rfl ?_
  exact l_71 h 16 0 rfl
set_option maxRecDepth 100000 in
set_option maxHeartbeats 4000000 in
theorem l_56 (h : DK (A 0) D) : ∀ (m i c : Nat), i + m = 16 → mq 56 4 [some (.ref 2), some (.int (nI c)), some (.int (nI i))] [] (hS n u I A J B mk sn L xs X) (fun r => r = (.inl (some (.int (nI (c + fcS D m i)))), hS n u I A J B mk sn L xs X)) := by
  intro m
  induction m with
  | zero =>
    intro i c hi
    have hi : i = 16 := by omega
    subst hi
    refine x_step (pc := 4) (pc' := 5) rfl rfl rfl rfl ?_
    refine x_const (pc := 5) (pc' := 7) (.int 16) rfl rfl rfl rfl ?_
    refine x_cmp_ge (pc := 7) (t := 32) rfl rfl rfl (fun h7 => ?_) (fun h7 => ?_)
    · refine x_step (pc := 32) (pc' := 33) rfl rfl rfl rfl ?_
      refine x_ret (pc := 33) rfl rfl ?_
      exact rfl
    · exact absurd (show (16 : Int32) ≤ nI 16 from by decide) h7
  | succ m ih =>
    intro i c hi
    refine x_step (pc := 4) (pc' := 5) rfl rfl rfl rfl ?_
    refine x_const (pc := 5) (pc' := 7) (.int 16) rfl rfl rfl rfl ?_
    refine x_cmp_ge (pc := 7) (t := 32) rfl rfl rfl (fun h7 => ?_) (fun h7 => ?_)
    · exact absurd h7 (nI_16 (by omega))
    · refine x_step (pc := 10) (pc' := 11) rfl rfl rfl rfl ?_
      refine x_step (pc := 11) (pc' := 12) rfl rfl rfl rfl ?_
      refine x_step (pc := 12) (pc' := 13) rfl rfl rfl rfl ?_
      refine x_call (pc := 13) rfl rfl rfl ⟨Nat.le_of_ble_eq_true rfl, Nat.le_of_ble_eq_true rfl, Nat.le_of_ble_eq_true rfl⟩ (c_20 h (by omega)) ?_
      refine x_if_ne (pc := 16) (t := 23) rfl rfl rfl (fun h16 => ?_) (fun h16 => ?_)
      · have hz := nI_z (oB_lt h.2.1 i)
        refine x_const (pc := 23) (pc' := 24) (.int 0) rfl rfl rfl rfl ?_
        refine x_iadd (pc := 24) rfl rfl ?_
        refine x_step (pc := 25) (pc' := 26) rfl rfl rfl rfl ?_
        refine x_iinc (pc := 26) (1) rfl rfl rfl rfl ?_
        refine x_step (pc := 29) (pc' := 4) rfl rfl rfl rfl ?_
        first
          | (rw [show nI i + 1 = nI (i + 1) from nI_1 i, show nI c + 1 = nI (c + 1) from nI_1 c, show c + fcS D (m + 1) i = c + 1 + fcS D m (i + 1) from by show c + ((if oB D i = 0 then 1 else 0) + _) = _; rw [if_pos (hz.mp h16)]; omega]; exact ih (i + 1) (c + 1) (by omega))
          | (rw [show nI i + 1 = nI (i + 1) from nI_1 i, show nI c + 0 = nI c from nI_add c 0, show c + fcS D (m + 1) i = c + fcS D m (i + 1) from by show c + ((if oB D i = 0 then 1 else 0) + _) = _; rw [if_neg (fun q => h16 (hz.mpr q))]; omega]; exact ih (i + 1) c (by omega))
      · have hz := nI_z (oB_lt h.2.1 i)
        refine x_const (pc := 19) (pc' := 20) (.int 1) rfl rfl rfl rfl ?_
        refine x_step (pc := 20) (pc' := 24) rfl rfl rfl rfl ?_
        refine x_iadd (pc := 24) rfl rfl ?_
        refine x_step (pc := 25) (pc' := 26) rfl rfl rfl rfl ?_
        refine x_iinc (pc := 26) (1) rfl rfl rfl rfl ?_
        refine x_step (pc := 29) (pc' := 4) rfl rfl rfl rfl ?_
        first
          | (rw [show nI i + 1 = nI (i + 1) from nI_1 i, show nI c + 1 = nI (c + 1) from nI_1 c, show c + fcS D (m + 1) i = c + 1 + fcS D m (i + 1) from by show c + ((if oB D i = 0 then 1 else 0) + _) = _; rw [if_pos (hz.mp h16)]; omega]; exact ih (i + 1) (c + 1) (by omega))
          | (rw [show nI i + 1 = nI (i + 1) from nI_1 i, show nI c + 0 = nI c from nI_add c 0, show c + fcS D (m + 1) i = c + fcS D m (i + 1) from by show c + ((if oB D i = 0 then 1 else 0) + _) = _; rw [if_neg (fun q => h16 (hz.mpr q))]; omega]; exact ih (i + 1) c (by omega))
set_option maxRecDepth 100000 in
set_option maxHeartbeats 4000000 in
theorem c_56 (h : DK (A 0) D) : mq 56 0 (ment 3 [.ref 2]) [] (hS n u I A J B mk sn L xs X) (fun r => r = (.inl (some (.int (nI (fcS D 16 0)))), hS n u I A J B mk sn L xs X)) := by
  refine x_const (pc := 0) (pc' := 1) (.int 0) rfl rfl rfl rfl ?_
  refine x_step (pc := 1) (pc' := 2) rfl rfl rfl rfl ?_
  refine x_const (pc := 2) (pc' := 3) (.int 0) rfl rfl rfl rfl ?_
  refine x_step (pc := 3) (pc' := 4) rfl rfl rfl rfl ?_
  have hl := l_56 (n := n) (u := u) (I := I) (J := J) (B := B) (mk := mk) (sn := sn) (L := L) (xs := xs) (X := X) h 16 0 0 rfl
  rw [Nat.zero_add] at hl
  exact hl
set_option maxRecDepth 100000 in
set_option maxHeartbeats 4000000 in
theorem c_118 (h : DK (A 50) D) {k : Nat} (hk : k < 16) : mq 118 0 (ment 2 [.ref 67, .int (nI k)]) [] (hS n u I A J B mk sn L xs X) (fun r => r = (.inl (some (.int (nI (oB D k)))), hS n u I A J B mk sn L xs X)) := by
  refine x_step (pc := 0) (pc' := 1) rfl rfl rfl rfl ?_
  refine x_step (pc := 1) (pc' := 4) rfl rfl rfl rfl ?_
  refine x_const (pc := 4) (pc' := 7) (.int 128) rfl rfl rfl rfl ?_
  refine x_step (pc := 7) (pc' := 8) rfl rfl rfl rfl ?_
  refine x_imul (pc := 8) rfl rfl ?_
  refine x_const (pc := 9) (pc' := 10) (.int 2) rfl rfl rfl rfl ?_
  refine x_iadd (pc := 10) rfl rfl ?_
  refine x_ald (pc := 11) rfl rfl rfl (by rw [show 128 * nI k + 2 = nI (128 * k + 2) from m128 k 2]; exact mIn_nI (by omega) (by decide)) ?_
  refine x_ret (pc := 12) rfl rfl ?_
  rw [show 128 * nI k + 2 = nI (128 * k + 2) from m128 k 2, nI_clamp (by omega), h.1]
  rfl
set_option maxRecDepth 100000 in
set_option maxHeartbeats 4000000 in
theorem c_123 (h : DK (A 50) D) {k : Nat} (hk : k < 16) : mq 123 0 (ment 2 [.ref 67, .int (nI k)]) [] (hS n u I A J B mk sn L xs X) (fun r => r = (.inl (some (.int (nI (mB D k)))), hS n u I A J B mk sn L xs X)) := by
  refine x_const (pc := 0) (pc' := 3) (.int 256) rfl rfl rfl rfl ?_
  refine x_step (pc := 3) (pc' := 4) rfl rfl rfl rfl ?_
  refine x_step (pc := 4) (pc' := 7) rfl rfl rfl rfl ?_
  refine x_const (pc := 7) (pc' := 10) (.int 128) rfl rfl rfl rfl ?_
  refine x_step (pc := 10) (pc' := 11) rfl rfl rfl rfl ?_
  refine x_imul (pc := 11) rfl rfl ?_
  refine x_ald (pc := 12) rfl rfl rfl (by rw [m128' k]; exact mIn_nI (by omega) (by decide)) ?_
  refine x_imul (pc := 13) rfl rfl ?_
  refine x_step (pc := 14) (pc' := 15) rfl rfl rfl rfl ?_
  refine x_step (pc := 15) (pc' := 18) rfl rfl rfl rfl ?_
  refine x_const (pc := 18) (pc' := 21) (.int 128) rfl rfl rfl rfl ?_
  refine x_step (pc := 21) (pc' := 22) rfl rfl rfl rfl ?_
  refine x_imul (pc := 22) rfl rfl ?_
  refine x_const (pc := 23) (pc' := 24) (.int 1) rfl rfl rfl rfl ?_
  refine x_iadd (pc := 24) rfl rfl ?_
  refine x_ald (pc := 25) rfl rfl rfl (by rw [show 128 * nI k + 1 = nI (128 * k + 1) from m128 k 1]; exact mIn_nI (by omega) (by decide)) ?_
  refine x_iadd (pc := 26) rfl rfl ?_
  refine x_ret (pc := 27) rfl rfl ?_
  rw [show 128 * nI k + 1 = nI (128 * k + 1) from m128 k 1, m128' k, nI_clamp (by omega), nI_clamp (by omega), h.1, ← mB_eq2]
set_option maxRecDepth 100000 in
set_option maxHeartbeats 4000000 in
theorem c_120 (h : DK (A 50) D) {k : Nat} (hk : k < 16) : mq 120 0 (ment 3 [.ref 67, .int (nI k)]) [] (hS n u I A J B mk sn L xs X) (fun r => r = (.inl (some (.int (nI (bB D k)))), hS n u I A J B mk sn L xs X)) := by
  refine x_const (pc := 0) (pc' := 3) (.int 128) rfl rfl rfl rfl ?_
  refine x_step (pc := 3) (pc' := 4) rfl rfl rfl rfl ?_
  refine x_imul (pc := 4) rfl rfl ?_
  refine x_const (pc := 5) (pc' := 6) (.int 4) rfl rfl rfl rfl ?_
  refine x_iadd (pc := 6) rfl rfl ?_
  refine x_step (pc := 7) (pc' := 8) rfl rfl rfl rfl ?_
  refine x_step (pc := 8) (pc' := 9) rfl rfl rfl rfl ?_
  refine x_step (pc := 9) (pc' := 12) rfl rfl rfl rfl ?_
  refine x_step (pc := 12) (pc' := 13) rfl rfl rfl rfl ?_
  refine x_ald (pc := 13) rfl rfl rfl (by rw [show 128 * nI k + 4 = nI (128 * k + 4) from m128 k 4]; exact mIn_nI (by omega) (by decide)) ?_
  refine x_const (pc := 14) (pc' := 16) (.int 24) rfl rfl rfl rfl ?_
  refine x_ishl (pc := 16) rfl rfl ?_
  refine x_step (pc := 17) (pc' := 18) rfl rfl rfl rfl ?_
  refine x_step (pc := 18) (pc' := 21) rfl rfl rfl rfl ?_
  refine x_step (pc := 21) (pc' := 22) rfl rfl rfl rfl ?_
  refine x_const (pc := 22) (pc' := 23) (.int 1) rfl rfl rfl rfl ?_
  refine x_iadd (pc := 23) rfl rfl ?_
  refine x_ald (pc := 24) rfl rfl rfl (by rw [show 128 * nI k + 4 + 1 = nI (128 * k + 5) from by rw [show 128 * nI k + 4 = nI (128 * k + 4) from m128 k 4]; exact nI_add _ 1]; exact mIn_nI (by omega) (by decide)) ?_
  refine x_const (pc := 25) (pc' := 27) (.int 16) rfl rfl rfl rfl ?_
  refine x_ishl (pc := 27) rfl rfl ?_
  refine x_ior (pc := 28) rfl rfl ?_
  refine x_step (pc := 29) (pc' := 30) rfl rfl rfl rfl ?_
  refine x_step (pc := 30) (pc' := 33) rfl rfl rfl rfl ?_
  refine x_step (pc := 33) (pc' := 34) rfl rfl rfl rfl ?_
  refine x_const (pc := 34) (pc' := 35) (.int 2) rfl rfl rfl rfl ?_
  refine x_iadd (pc := 35) rfl rfl ?_
  refine x_ald (pc := 36) rfl rfl rfl (by rw [show 128 * nI k + 4 + 2 = nI (128 * k + 6) from by rw [show 128 * nI k + 4 = nI (128 * k + 4) from m128 k 4]; exact nI_add _ 2]; exact mIn_nI (by omega) (by decide)) ?_
  refine x_const (pc := 37) (pc' := 39) (.int 8) rfl rfl rfl rfl ?_
  refine x_ishl (pc := 39) rfl rfl ?_
  refine x_ior (pc := 40) rfl rfl ?_
  refine x_step (pc := 41) (pc' := 42) rfl rfl rfl rfl ?_
  refine x_step (pc := 42) (pc' := 45) rfl rfl rfl rfl ?_
  refine x_step (pc := 45) (pc' := 46) rfl rfl rfl rfl ?_
  refine x_const (pc := 46) (pc' := 47) (.int 3) rfl rfl rfl rfl ?_
  refine x_iadd (pc := 47) rfl rfl ?_
  refine x_ald (pc := 48) rfl rfl rfl (by rw [show 128 * nI k + 4 + 3 = nI (128 * k + 7) from by rw [show 128 * nI k + 4 = nI (128 * k + 4) from m128 k 4]; exact nI_add _ 3]; exact mIn_nI (by omega) (by decide)) ?_
  refine x_ior (pc := 49) rfl rfl ?_
  refine x_ret (pc := 50) rfl rfl ?_
  rw [show 128 * nI k + 4 + 1 = nI (128 * k + 5) from by rw [show 128 * nI k + 4 = nI (128 * k + 4) from m128 k 4]; exact nI_add _ 1, show 128 * nI k + 4 + 2 = nI (128 * k + 6) from by rw [show 128 * nI k + 4 = nI (128 * k + 4) from m128 k 4]; exact nI_add _ 2, show 128 * nI k + 4 + 3 = nI (128 * k + 7) from by rw [show 128 * nI k + 4 = nI (128 * k + 4) from m128 k 4]; exact nI_add _ 3, show 128 * nI k + 4 = nI (128 * k + 4) from m128 k 4, nI_clamp (by omega), nI_clamp (by omega), nI_clamp (by omega), nI_clamp (by omega), h.1, ← bB_eq h.2.1]
set_option maxRecDepth 100000 in
set_option maxHeartbeats 4000000 in
theorem l_131 (h : DK (A 50) D) : ∀ (m i : Nat), i + m = 16 → mq 131 2 [some (.ref 67), some (.int (nI i))] [] (hS n u I A J B mk sn L xs X) (fun r => r = (.inl (some (.int (frS D m i))), hS n u I A J B mk sn L xs X)) := by
  intro m
  induction m with
  | zero =>
    intro i hi
    have hi : i = 16 := by omega
    subst hi
    refine x_step (pc := 2) (pc' := 3) rfl rfl rfl rfl ?_
    refine x_const (pc := 3) (pc' := 5) (.int 16) rfl rfl rfl rfl ?_
    refine x_cmp_ge (pc := 5) (t := 24) rfl rfl rfl (fun h5 => ?_) (fun h5 => ?_)
    · refine x_const (pc := 24) (pc' := 25) (.int (-1)) rfl rfl rfl rfl ?_
      refine x_ret (pc := 25) rfl rfl ?_
      exact rfl
    · exact absurd (show (16 : Int32) ≤ nI 16 from by decide) h5
  | succ m ih =>
    intro i hi
    refine x_step (pc := 2) (pc' := 3) rfl rfl rfl rfl ?_
    refine x_const (pc := 3) (pc' := 5) (.int 16) rfl rfl rfl rfl ?_
    refine x_cmp_ge (pc := 5) (t := 24) rfl rfl rfl (fun h5 => ?_) (fun h5 => ?_)
    · exact absurd h5 (nI_16 (by omega))
    · refine x_step (pc := 8) (pc' := 9) rfl rfl rfl rfl ?_
      refine x_step (pc := 9) (pc' := 10) rfl rfl rfl rfl ?_
      refine x_call (pc := 10) rfl rfl rfl ⟨Nat.le_of_ble_eq_true rfl, Nat.le_of_ble_eq_true rfl, Nat.le_of_ble_eq_true rfl⟩ (c_118 h (by omega)) ?_
      refine x_if_ne (pc := 13) (t := 18) rfl rfl rfl (fun h13 => ?_) (fun h13 => ?_)
      · unfold frS
        rw [if_neg (fun q => h13 ((nI_z (oB_lt h.2.1 i)).mpr q))]
        refine x_iinc (pc := 18) 1 rfl rfl rfl rfl ?_
        refine x_step (pc := 21) (pc' := 2) rfl rfl rfl rfl ?_
        rw [show nI i + 1 = nI (i + 1) from nI_1 i]
        exact ih (i + 1) (by omega)
      · unfold frS
        refine x_step (pc := 16) (pc' := 17) rfl rfl rfl rfl ?_
        refine x_ret (pc := 17) rfl rfl ?_
        rw [if_pos ((nI_z (oB_lt h.2.1 i)).mp h13)]
set_option maxRecDepth 100000 in
set_option maxHeartbeats 4000000 in
theorem c_131 (h : DK (A 50) D) : mq 131 0 (ment 2 [.ref 67]) [] (hS n u I A J B mk sn L xs X) (fun r => r = (.inl (some (.int (frS D 16 0))), hS n u I A J B mk sn L xs X)) := by
  refine x_const (pc := 0) (pc' := 1) (.int 0) rfl rfl rfl rfl ?_
  refine x_step (pc := 1) (pc' := 2) rfl rfl rfl rfl ?_
  exact l_131 h 16 0 rfl
end S23
