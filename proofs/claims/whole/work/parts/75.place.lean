/-! Slots are placed, twins dropped: the class. -/
/-- a slot put in at j -/
def insF (f : Nat → Nat) (j s : Nat) : Nat → Nat := fun k => if k < j then f k else if k = j then s else f (k - 1)
/-- behind the last whose base lies below b -/
def rkI (D : Nat → Nat) (f : Nat → Nat) (b : Nat) : Nat → Nat
  | 0 => 0
  | i + 1 => if bB D (f i) < b then i + 1 else rkI D f b i
theorem rkI_le (D : Nat → Nat) (f : Nat → Nat) (b : Nat) : ∀ n, rkI D f b n ≤ n
  | 0 => Nat.le_refl 0
  | i + 1 => by
    have h := rkI_le D f b i
    show (if bB D (f i) < b then i + 1 else rkI D f b i) ≤ i + 1
    split <;> omega
/-- whether a slot is the successor of another one -/
def sc (D : Nat → Nat) (s o : Nat) : Bool := decide (¬ oB D s = 0 ∧ oB D s = oB D o ∧ bB D s = bB D o ∧ gB D s = (gB D o + 1) % 2 ^ 8)
def dt1 (s : Nat) : Nat → Nat → DS → DS
  | 0, _, S => S
  | z + 1, o, S => dt1 s z (o + 1) (if sc (dD S) s o = true then wr1 S (owW o 0) else S)
def dtA : Nat → Nat → DS → DS
  | 0, _, S => S
  | z + 1, s, S => dtA z (s + 1) (dt1 s 16 0 S)
def HB (D : Nat → Nat) : Prop := ∀ s, s < 16 → ¬ oB D s = 0 → bB D s < 2 ^ 31
theorem HB_ow {D : Nat → Nat} {o : Nat} (h : HB D) : HB (dW D (128 * o + 2) 1 (gB0 [0 / 2 ^ 0 % 256])) := fun s hs ho => by
  rw [ow_o (v := 0) _ rfl] at ho
  rw [(ow_hd _).2]
  by_cases h1 : s = o
  · rw [if_pos h1] at ho
    exact absurd rfl ho
  · rw [if_neg h1] at ho
    exact h s hs ho
/-- on, and no cut is set -/
def NC (S : DS) : Prop := dO S = false ∧ dC S = none
theorem NC_wr {S : DS} (x : WI) (h : NC S) : NC (wr1 S x) ∧ dD (wr1 S x) = dW (dD S) x.1 x.2.1 x.2.2 ∧ dN (wr1 S x) = dN S + 1 := by
  have e := wr1_on x h.1 (by rw [h.2]; simp)
  rw [e, h.2]
  exact ⟨⟨rfl, rfl⟩, rfl, rfl⟩
section S75
variable {n u : Nat} {I : Nat → Int32} {A : Nat → Nat → Int32} {J : Int64} {B : Nat → Int64} {mk sn L : Nat} {xs : Nat → Int32} {X : Nat → mC} {D : Nat → Nat} 
set_option maxRecDepth 100000 in
set_option maxHeartbeats 4000000 in
theorem k_17  {Q : mO × mHp → Prop} (kk : Q (.inl none, hS n u (va_up (va_up I 0 (nI 1)) 1 (nI 0)) A J B mk sn L xs X)) : mq 17 0 [some (.ref 2)] [] (hS n u I A J B mk sn L xs X) Q := by
  refine x_al1 (pc := 0) rfl rfl ?_
  refine x_const (pc := 1) (pc' := 2) (.int (nI 1)) rfl rfl rfl rfl ?_
  refine p_2_1 (pc := 2) rfl rfl (by decide) ?_
  refine x_al1 (pc := 5) rfl rfl ?_
  refine x_const (pc := 6) (pc' := 7) (.int (nI 0)) rfl rfl rfl rfl ?_
  refine p_2_2 (pc := 7) rfl rfl (by decide) ?_
  refine x_ret (pc := 10) rfl rfl ?_
  exact kk
set_option maxRecDepth 100000 in
set_option maxHeartbeats 4000000 in
theorem k_19 (h : DK (A 0) D) {s o : Nat} (hs : s < 16) (ho : o < 16) (hB : HB D) {Q : mO × mHp → Prop} (kk : Q (.inl (some (.int (nI (if sc D s o = true then 1 else 0)))), hS n u I A J B mk sn L xs X)) : mq 19 0 [some (.ref 2), some (.int (nI s)), some (.int (nI o))] [] (hS n u I A J B mk sn L xs X) Q := by
  have d1 := h.2.1 (128 * s + 2)
  have d2 := h.2.1 (128 * o + 2)
  have d3 := h.2.1 (128 * s + 3)
  have d4 := h.2.1 (128 * o + 3)
  have e1 : oB D s = D (128 * s + 2) := rfl
  have e2 : oB D o = D (128 * o + 2) := rfl
  have e3 : gB D s = D (128 * s + 3) := rfl
  have e4 : gB D o = D (128 * o + 3) := rfl
  refine x_al1 (pc := 0) rfl rfl ?_
  refine x_il1 (pc := 1) rfl rfl ?_
  refine x_k (pc := 2) rfl rfl rfl ⟨Nat.le_of_ble_eq_true rfl, Nat.le_of_ble_eq_true rfl, Nat.le_of_ble_eq_true rfl⟩ rfl (mq_k (c_20 h hs) ?_)
  show mq 19 5 [some (.ref 2), some (.int (nI s)), some (.int (nI o))] [.int (nI (oB D s))] (hS n u I A J B mk sn L xs X) _
  refine x_ifN_eq (pc := 5) (t := 57) rfl rfl (by omega) (fun c5 => ?_) (fun c5 => ?_)
  · have e : sc D s o = false := decide_eq_false (fun q => q.1 c5)
    rw [e] at kk
    refine x_const (pc := 57) (pc' := 58) (.int (nI 0)) rfl rfl rfl rfl ?_
    refine x_ret (pc := 58) rfl rfl ?_
    exact kk
  · refine x_al1 (pc := 8) rfl rfl ?_
    refine x_il1 (pc := 9) rfl rfl ?_
    refine x_k (pc := 10) rfl rfl rfl ⟨Nat.le_of_ble_eq_true rfl, Nat.le_of_ble_eq_true rfl, Nat.le_of_ble_eq_true rfl⟩ rfl (mq_k (c_20 h hs) ?_)
    show mq 19 13 [some (.ref 2), some (.int (nI s)), some (.int (nI o))] [.int (nI (oB D s))] (hS n u I A J B mk sn L xs X) _
    refine x_al1 (pc := 13) rfl rfl ?_
    refine x_il1 (pc := 14) rfl rfl ?_
    refine x_k (pc := 15) rfl rfl rfl ⟨Nat.le_of_ble_eq_true rfl, Nat.le_of_ble_eq_true rfl, Nat.le_of_ble_eq_true rfl⟩ rfl (mq_k (c_20 h ho) ?_)
    show mq 19 18 [some (.ref 2), some (.int (nI s)), some (.int (nI o))] [.int (nI (oB D o)), .int (nI (oB D s))] (hS n u I A J B mk sn L xs X) _
    refine x_cmpN_ne (pc := 18) (t := 57) rfl rfl (by omega) (by omega) (fun c18 => ?_) (fun c18 => ?_)
    · have e : sc D s o = false := decide_eq_false (fun q => c18 q.2.1)
      rw [e] at kk
      refine x_const (pc := 57) (pc' := 58) (.int (nI 0)) rfl rfl rfl rfl ?_
      refine x_ret (pc := 58) rfl rfl ?_
      exact kk
    · refine x_al1 (pc := 21) rfl rfl ?_
      refine x_il1 (pc := 22) rfl rfl ?_
      refine x_k (pc := 23) rfl rfl rfl ⟨Nat.le_of_ble_eq_true rfl, Nat.le_of_ble_eq_true rfl, Nat.le_of_ble_eq_true rfl⟩ rfl (mq_k (c_22 h hs) ?_)
      show mq 19 26 [some (.ref 2), some (.int (nI s)), some (.int (nI o))] [.int (nI (bB D s))] (hS n u I A J B mk sn L xs X) _
      refine x_al1 (pc := 26) rfl rfl ?_
      refine x_il1 (pc := 27) rfl rfl ?_
      refine x_k (pc := 28) rfl rfl rfl ⟨Nat.le_of_ble_eq_true rfl, Nat.le_of_ble_eq_true rfl, Nat.le_of_ble_eq_true rfl⟩ rfl (mq_k (c_22 h ho) ?_)
      show mq 19 31 [some (.ref 2), some (.int (nI s)), some (.int (nI o))] [.int (nI (bB D o)), .int (nI (bB D s))] (hS n u I A J B mk sn L xs X) _
      refine x_cmpN_ne (pc := 31) (t := 57) rfl rfl (by have := hB s hs c5; omega) (by have := hB o ho (c18 ▸ c5); omega) (fun c31 => ?_) (fun c31 => ?_)
      · have e : sc D s o = false := decide_eq_false (fun q => c31 q.2.2.1)
        rw [e] at kk
        refine x_const (pc := 57) (pc' := 58) (.int (nI 0)) rfl rfl rfl rfl ?_
        refine x_ret (pc := 58) rfl rfl ?_
        exact kk
      · refine x_al1 (pc := 34) rfl rfl ?_
        refine x_il1 (pc := 35) rfl rfl ?_
        refine x_k (pc := 36) rfl rfl rfl ⟨Nat.le_of_ble_eq_true rfl, Nat.le_of_ble_eq_true rfl, Nat.le_of_ble_eq_true rfl⟩ rfl (mq_k (c_23 h hs) ?_)
        show mq 19 39 [some (.ref 2), some (.int (nI s)), some (.int (nI o))] [.int (nI (gB D s))] (hS n u I A J B mk sn L xs X) _
        refine x_al1 (pc := 39) rfl rfl ?_
        refine x_il1 (pc := 40) rfl rfl ?_
        refine x_k (pc := 41) rfl rfl rfl ⟨Nat.le_of_ble_eq_true rfl, Nat.le_of_ble_eq_true rfl, Nat.le_of_ble_eq_true rfl⟩ rfl (mq_k (c_23 h ho) ?_)
        show mq 19 44 [some (.ref 2), some (.int (nI s)), some (.int (nI o))] [.int (nI (gB D o)), .int (nI (gB D s))] (hS n u I A J B mk sn L xs X) _
        refine x_const (pc := 44) (pc' := 45) (.int (nI 1)) rfl rfl rfl rfl ?_
        refine x_iaddN (pc := 45) (c := (gB D o) + 1) rfl rfl ?_
        refine x_const (pc := 46) (pc' := 49) (.int (nI 255)) rfl rfl rfl rfl ?_
        refine x_iandV (pc := 49) (v := nI ((gB D o + 1) % 2 ^ 8)) rfl (pk_andN (by omega) 8 (by decide)) ?_
        refine x_cmpN_ne (pc := 50) (t := 57) rfl rfl (by omega) (by omega) (fun c50 => ?_) (fun c50 => ?_)
        · have e : sc D s o = false := decide_eq_false (fun q => c50 q.2.2.2)
          rw [e] at kk
          refine x_const (pc := 57) (pc' := 58) (.int (nI 0)) rfl rfl rfl rfl ?_
          refine x_ret (pc := 58) rfl rfl ?_
          exact kk
        · have e : sc D s o = true := decide_eq_true ⟨c5, c18, c31, c50⟩
          rw [e] at kk
          refine x_const (pc := 53) (pc' := 54) (.int (nI 1)) rfl rfl rfl rfl ?_
          refine x_step (pc := 54) (pc' := 58) rfl rfl rfl rfl ?_
          refine x_ret (pc := 58) rfl rfl ?_
          exact kk
set_option maxRecDepth 100000 in
set_option maxHeartbeats 4000000 in
theorem l_18 {s : Nat} (hs : s < 16) (hmk : mks mk sn) (hn : 77 ≤ n ∧ n < 10000) (hu : u + 6 < 1000000) {Q : mO × mHp → Prop} : ∀ (z o : Nat) {S : DS} {I : Nat → Int32} {A : Nat → Nat → Int32}, (o + z = 16) → (kD mk S I A) → (NC S) → (HB (dD S)) → (∀ I' A', Fr [2, 3, 15] I I' → Fr [0, 4] A A' → kD mk (dt1 s z o S) I' A' → Q (.inl none, hS n u I' A' J B mk sn L xs X)) → mq 18 2 [some (.ref 1), some (.int (nI s)), some (.int (nI o))] [] (hS n u I A J B mk sn L xs X) Q := by
  intro z
  induction z with
  | zero =>
    intro o S I A hz hD hNC hB kk
    refine x_il1 (pc := 2) rfl rfl ?_
    refine x_const (pc := 3) (pc' := 5) (.int (nI 16)) rfl rfl rfl rfl ?_
    refine x_cmpN_ge (pc := 5) (t := 32) rfl rfl (by omega) (by omega) (fun c5 => ?_) (fun c5 => ?_)
    · refine x_ret (pc := 32) rfl rfl ?_
      exact kk I A (Fr_refl _ _) (Fr_refl _ _) hD
    · omega
  | succ z ih =>
    intro o S I A hz hD hNC hB kk
    refine x_il1 (pc := 2) rfl rfl ?_
    refine x_const (pc := 3) (pc' := 5) (.int (nI 16)) rfl rfl rfl rfl ?_
    refine x_cmpN_ge (pc := 5) (t := 32) rfl rfl (by omega) (by omega) (fun c5 => ?_) (fun c5 => ?_)
    · omega
    · refine x_al1 (pc := 8) rfl rfl ?_
      refine g_1_0 (pc := 9) rfl rfl ?_
      refine x_il1 (pc := 12) rfl rfl ?_
      refine x_il1 (pc := 13) rfl rfl ?_
      refine x_k (pc := 14) rfl rfl rfl ⟨Nat.le_of_ble_eq_true rfl, Nat.le_of_ble_eq_true rfl, Nat.le_of_ble_eq_true rfl⟩ rfl (k_19 (I := I) (A := A) (D := dD S) hD.2.1 hs (by omega) hB ?_)
      show mq 18 17 [some (.ref 1), some (.int (nI s)), some (.int (nI o))] [.int (nI (if sc (dD S) s o = true then 1 else 0))] (hS n u I A J B mk sn L xs X) _
      refine x_ifN_eq (pc := 17) (t := 26) rfl rfl (by split <;> omega) (fun c17 => ?_) (fun c17 => ?_)
      · have hsc : ¬ sc (dD S) s o = true := fun q => by rw [if_pos q] at c17; exact absurd c17 (by decide)
        refine x_iincN (pc := 26) (c := 1) (ml' := [some (.ref 1), some (.int (nI s)), some (.int (nI (o + 1)))]) rfl rfl rfl rfl ?_
        refine x_step (pc := 29) (pc' := 2) rfl rfl rfl rfl ?_
        have e : dt1 s (z + 1) o S = dt1 s z (o + 1) S := congrArg (dt1 s z (o + 1)) (if_neg hsc)
        rw [e] at kk
        exact ih (o + 1) (S := S) (I := I) (A := A) (by omega) hD hNC hB kk
      · have hsc : sc (dD S) s o = true := Decidable.byContradiction (fun q => c17 (if_neg q))
        refine x_al1 (pc := 20) rfl rfl ?_
        refine x_il1 (pc := 21) rfl rfl ?_
        refine x_const (pc := 22) (pc' := 23) (.int (nI 0)) rfl rfl rfl rfl ?_
        refine x_k (pc := 23) rfl rfl rfl ⟨Nat.le_of_ble_eq_true rfl, Nat.le_of_ble_eq_true rfl, Nat.le_of_ble_eq_true rfl⟩ rfl (k_24 (I := I) (A := A) (S := S) (s := o) (v := 0) (by omega) (by decide) hD hNC.1 hmk hn hu (fun o2 I2 A2 f2 g2 h2 => ?_) (fun o2 I2 A2 f2 g2 h2 => absurd o2 (by rw [(NC_wr _ hNC).1.1]; decide)))
        show mq 18 26 [some (.ref 1), some (.int (nI s)), some (.int (nI o))] [] (hS n u I2 A2 J B mk sn L xs X) _
        refine x_iincN (pc := 26) (c := 1) (ml' := [some (.ref 1), some (.int (nI s)), some (.int (nI (o + 1)))]) rfl rfl rfl rfl ?_
        refine x_step (pc := 29) (pc' := 2) rfl rfl rfl rfl ?_
        have e : dt1 s (z + 1) o S = dt1 s z (o + 1) (wr1 S (owW o 0)) := congrArg (dt1 s z (o + 1)) (if_pos hsc)
        rw [e] at kk
        exact ih (o + 1) (S := wr1 S (owW o 0)) (I := I2) (A := A2) (by omega) h2 (NC_wr _ hNC).1 (by rw [(NC_wr _ hNC).2.1]; exact HB_ow hB) (fun I3 A3 f3 g3 h3 => kk I3 A3 (Fr_cons f2 f3 (by decide)) (Fr_cons g2 g3 (by decide)) h3)
set_option maxRecDepth 100000 in
set_option maxHeartbeats 4000000 in
theorem k_18 {s : Nat} {S : DS} (hs : s < 16) (hmk : mks mk sn) (hn : 77 ≤ n ∧ n < 10000) (hu : u + 6 < 1000000) (hD : kD mk S I A) (hNC : NC S) (hB : HB (dD S)) {Q : mO × mHp → Prop} (kk : ∀ I' A', Fr [2, 3, 15] I I' → Fr [0, 4] A A' → kD mk (dt1 s 16 0 S) I' A' → Q (.inl none, hS n u I' A' J B mk sn L xs X)) : mq 18 0 [some (.ref 1), some (.int (nI s)), none] [] (hS n u I A J B mk sn L xs X) Q := by
  refine x_const (pc := 0) (pc' := 1) (.int (nI 0)) rfl rfl rfl rfl ?_
  refine x_is1 (pc := 1) (ml' := [some (.ref 1), some (.int (nI s)), some (.int (nI 0))]) rfl rfl ?_
  exact l_18 hs hmk hn hu 16 0 (Nat.zero_add _) hD hNC hB kk
set_option maxRecDepth 100000 in
set_option maxHeartbeats 4000000 in
theorem l_34_0 {cn j s : Nat} {f : Nat → Nat} (hcn : cn < 16) (hc : I 40 = nI cn) {Q : mO × mHp → Prop} : ∀ (z : Nat) {A : Nat → Nat → Int32}, (j + z ≤ cn) → (∀ k, k < j + z → A 30 k = nI (f k)) → (∀ k, j + z < k → k < cn + 1 → A 30 k = nI (f (k - 1))) → (∀ A', Fr [30] A A' → (∀ k, k < cn + 1 → A' 30 k = nI (insF f j s k)) → Q (.inl none, hS n u (va_up I 40 (nI (cn + 1))) A' J B mk sn L xs X)) → mq 34 27 [some (.ref 13), some (.int (nI j)), some (.int (nI s)), some (.int (nI (j + z)))] [] (hS n u I A J B mk sn L xs X) Q := by
  intro z
  induction z with
  | zero =>
    intro A hz h1 h2 kk
    refine x_il1 (pc := 27) rfl rfl ?_
    refine x_il1 (pc := 28) rfl rfl ?_
    refine x_cmpN_le (pc := 29) (t := 52) rfl rfl (by omega) (by omega) (fun c29 => ?_) (fun c29 => ?_)
    · refine x_al1 (pc := 52) rfl rfl ?_
      refine g_13_1 (pc := 53) rfl rfl ?_
      refine x_il1 (pc := 56) rfl rfl ?_
      refine x_il1 (pc := 57) rfl rfl ?_
      refine as_14 (pc := 58) (q := j) rfl rfl (by omega) ?_
      refine x_al1 (pc := 59) rfl rfl ?_
      refine x_step (pc := 60) (pc' := 61) (st' := [.ref 13, .ref 13]) rfl rfl rfl rfl ?_
      refine g_13_5 (pc := 61) (v := nI cn) rfl rfl hc ?_
      refine x_const (pc := 64) (pc' := 65) (.int (nI 1)) rfl rfl rfl rfl ?_
      refine x_iaddN (pc := 65) (c := cn + 1) rfl rfl ?_
      refine p_13_5 (pc := 66) rfl rfl ?_
      refine x_ret (pc := 69) rfl rfl ?_
      refine kk _ (Fr_u (Fr_refl _ _) (by decide)) (fun k hk => ?_)
      unfold insF
      by_cases h5 : k = j
      · rw [if_neg (by omega), if_pos h5, h5]
        exact pk_us
      · rw [show (va_up A 30 (upd (A 30) j (nI s))) 30 k = A 30 k from pk_un h5]
        by_cases h6 : k < j
        · rw [if_pos h6]
          exact h1 k h6
        · rw [if_neg h6, if_neg h5]
          exact h2 k (by omega) hk
    · omega
  | succ z ih =>
    intro A hz h1 h2 kk
    refine x_il1 (pc := 27) rfl rfl ?_
    refine x_il1 (pc := 28) rfl rfl ?_
    refine x_cmpN_le (pc := 29) (t := 52) rfl rfl (by omega) (by omega) (fun c29 => ?_) (fun c29 => ?_)
    · omega
    · refine x_al1 (pc := 32) rfl rfl ?_
      refine g_13_1 (pc := 33) rfl rfl ?_
      refine x_il1 (pc := 36) rfl rfl ?_
      refine x_al1 (pc := 37) rfl rfl ?_
      refine g_13_1 (pc := 38) rfl rfl ?_
      refine x_il1 (pc := 41) rfl rfl ?_
      refine x_const (pc := 42) (pc' := 43) (.int (nI 1)) rfl rfl rfl rfl ?_
      refine x_isubN (pc := 43) rfl ((by omega)) ?_
      refine al_14 (pc := 44) (q := j + z) (v := nI (f (j + z))) rfl (congrArg nI (by omega)) (by omega) (h1 _ (by omega)) ?_
      refine as_14 (pc := 45) (q := j + (z + 1)) rfl rfl (by omega) ?_
      refine x_iincV (pc := 46) (v := nI (j + z)) (ml' := [some (.ref 13), some (.int (nI j)), some (.int (nI s)), some (.int (nI (j + z)))]) rfl rfl (pk_m1 (j + z)) rfl ?_
      refine x_step (pc := 49) (pc' := 27) rfl rfl rfl rfl ?_
      refine ih (A := va_up A 30 (upd (A 30) (j + (z + 1)) (nI (f (j + z))))) (by omega) (fun k hk => (pk_un (by omega)).trans (h1 k (by omega))) (fun k hk1 hk2 => ?_) (fun A9 g9 h9 => kk A9 (Fr_cons (Fr_u (Fr_refl _ _) (by decide)) g9 (by decide)) h9)
      by_cases h5 : k = j + (z + 1)
      · rw [h5]
        exact pk_us
      · exact (pk_un h5).trans (h2 k (by omega) hk2)
set_option maxRecDepth 100000 in
set_option maxHeartbeats 4000000 in
theorem k_34_0 {cn j s : Nat} {f : Nat → Nat} (hcn : cn < 16) (hj : j ≤ cn) (hc : I 40 = nI cn) (hsl : ∀ k, k < cn → A 30 k = nI (f k)) {Q : mO × mHp → Prop} (kk : ∀ A', Fr [30] A A' → (∀ k, k < cn + 1 → A' 30 k = nI (insF f j s k)) → Q (.inl none, hS n u (va_up I 40 (nI (cn + 1))) A' J B mk sn L xs X)) : mq 34 0 [some (.ref 13), some (.int (nI j)), some (.int (nI s)), none] [] (hS n u I A J B mk sn L xs X) Q := by
  refine x_al1 (pc := 0) rfl rfl ?_
  refine g_13_5 (pc := 1) (v := nI cn) rfl rfl hc ?_
  refine x_const (pc := 4) (pc' := 6) (.int (nI 16)) rfl rfl rfl rfl ?_
  refine x_cmpN_ge (pc := 6) (t := 21) rfl rfl (by omega) (by omega) (fun c6 => ?_) (fun c6 => ?_)
  · omega
  · refine x_il1 (pc := 9) rfl rfl ?_
    refine x_ifN_lt (pc := 10) (t := 21) rfl rfl (by omega) ?_
    refine x_il1 (pc := 13) rfl rfl ?_
    refine x_al1 (pc := 14) rfl rfl ?_
    refine g_13_5 (pc := 15) (v := nI cn) rfl rfl hc ?_
    refine x_cmpN_le (pc := 18) (t := 22) rfl rfl (by omega) (by omega) (fun c18 => ?_) (fun c18 => ?_)
    · refine x_al1 (pc := 22) rfl rfl ?_
      refine g_13_5 (pc := 23) (v := nI cn) rfl rfl hc ?_
      refine x_is1 (pc := 26) (ml' := [some (.ref 13), some (.int (nI j)), some (.int (nI s)), some (.int (nI cn))]) rfl rfl ?_
      obtain ⟨z, hz⟩ : ∃ z, cn = j + z := ⟨cn - j, by omega⟩
      subst hz
      exact l_34_0 (f := f) hcn hc z (Nat.le_refl _) hsl (fun k h1 h2 => by omega) kk
    · omega
set_option maxRecDepth 100000 in
set_option maxHeartbeats 4000000 in
theorem l_33_0 (h : DK (A 0) D) {cn s : Nat} {f : Nat → Nat} (hcn : cn ≤ 16) (hs : s < 16) (hf : ∀ k, k < cn → f k < 16 ∧ bB D (f k) < 2 ^ 31) (hbs : bB D s < 2 ^ 31) (hc : I 40 = nI cn) (hsl : ∀ k, k < cn → A 30 k = nI (f k)) {Q : mO × mHp → Prop} : ∀ (z k : Nat) , (k + z = cn) → (mq 33 50 [some (.ref 1), some (.ref 13), some (.int (nI s)), some (.int (nI (rkI D f (bB D s) cn))), some (.int (nI cn))] [] (hS n u I A J B mk sn L xs X) Q) → mq 33 5 [some (.ref 1), some (.ref 13), some (.int (nI s)), some (.int (nI (rkI D f (bB D s) k))), some (.int (nI k))] [] (hS n u I A J B mk sn L xs X) Q := by
  intro z
  induction z with
  | zero =>
    intro k  hz kk
    refine x_il2 (pc := 5) rfl rfl ?_
    refine x_al1 (pc := 7) rfl rfl ?_
    refine g_13_5 (pc := 8) (v := nI cn) rfl rfl hc ?_
    refine x_cmpN_ge (pc := 11) (t := 50) rfl rfl (by omega) (by omega) (fun c11 => ?_) (fun c11 => ?_)
    · rw [show k = cn by omega]
      exact kk
    · omega
  | succ z ih =>
    intro k  hz kk
    refine x_il2 (pc := 5) rfl rfl ?_
    refine x_al1 (pc := 7) rfl rfl ?_
    refine g_13_5 (pc := 8) (v := nI cn) rfl rfl hc ?_
    refine x_cmpN_ge (pc := 11) (t := 50) rfl rfl (by omega) (by omega) (fun c11 => ?_) (fun c11 => ?_)
    · omega
    · refine x_al1 (pc := 14) rfl rfl ?_
      refine g_1_0 (pc := 15) rfl rfl ?_
      refine x_al1 (pc := 18) rfl rfl ?_
      refine g_13_1 (pc := 19) rfl rfl ?_
      refine x_il2 (pc := 22) rfl rfl ?_
      refine al_14 (pc := 24) (q := k) (v := nI (f k)) rfl rfl (by omega) (hsl k (by omega)) ?_
      refine x_k (pc := 25) rfl rfl rfl ⟨Nat.le_of_ble_eq_true rfl, Nat.le_of_ble_eq_true rfl, Nat.le_of_ble_eq_true rfl⟩ rfl (mq_k (c_22 h (hf k (by omega)).1) ?_)
      show mq 33 28 [some (.ref 1), some (.ref 13), some (.int (nI s)), some (.int (nI (rkI D f (bB D s) k))), some (.int (nI k))] [.int (nI (bB D (f k)))] (hS n u I A J B mk sn L xs X) _
      refine x_al1 (pc := 28) rfl rfl ?_
      refine g_1_0 (pc := 29) rfl rfl ?_
      refine x_il1 (pc := 32) rfl rfl ?_
      refine x_k (pc := 33) rfl rfl rfl ⟨Nat.le_of_ble_eq_true rfl, Nat.le_of_ble_eq_true rfl, Nat.le_of_ble_eq_true rfl⟩ rfl (mq_k (c_22 h hs) ?_)
      show mq 33 36 [some (.ref 1), some (.ref 13), some (.int (nI s)), some (.int (nI (rkI D f (bB D s) k))), some (.int (nI k))] [.int (nI (bB D s)), .int (nI (bB D (f k)))] (hS n u I A J B mk sn L xs X) _
      refine x_cmpN_ge (pc := 36) (t := 44) rfl rfl (by have := (hf k (by omega)).2; omega) (by omega) (fun c36 => ?_) (fun c36 => ?_)
      · have e : rkI D f (bB D s) (k + 1) = rkI D f (bB D s) k := if_neg (by omega)
        refine x_iincN (pc := 44) (c := 1) (ml' := [some (.ref 1), some (.ref 13), some (.int (nI s)), some (.int (nI (rkI D f (bB D s) k))), some (.int (nI (k + 1)))]) rfl rfl rfl rfl ?_
        refine x_step (pc := 47) (pc' := 5) rfl rfl rfl rfl ?_
        have ihk := ih (k + 1) (by omega) kk
        rw [e] at ihk
        exact ihk
      · have e : rkI D f (bB D s) (k + 1) = k + 1 := if_pos (by omega)
        refine x_il2 (pc := 39) rfl rfl ?_
        refine x_const (pc := 41) (pc' := 42) (.int (nI 1)) rfl rfl rfl rfl ?_
        refine x_iaddN (pc := 42) (c := k + 1) rfl rfl ?_
        refine x_is1 (pc := 43) (ml' := [some (.ref 1), some (.ref 13), some (.int (nI s)), some (.int (nI (k + 1))), some (.int (nI k))]) rfl rfl ?_
        refine x_iincN (pc := 44) (c := 1) (ml' := [some (.ref 1), some (.ref 13), some (.int (nI s)), some (.int (nI (k + 1))), some (.int (nI (k + 1)))]) rfl rfl rfl rfl ?_
        refine x_step (pc := 47) (pc' := 5) rfl rfl rfl rfl ?_
        have ihk := ih (k + 1) (by omega) kk
        rw [e] at ihk
        exact ihk
set_option maxRecDepth 100000 in
set_option maxHeartbeats 4000000 in
theorem k_33_0 (h : DK (A 0) D) {cn s : Nat} {f : Nat → Nat} (hcn : cn ≤ 16) (hs : s < 16) (hf : ∀ k, k < cn → f k < 16 ∧ bB D (f k) < 2 ^ 31) (hbs : bB D s < 2 ^ 31) (hc : I 40 = nI cn) (hsl : ∀ k, k < cn → A 30 k = nI (f k)) (hcn1 : cn < 16) {Q : mO × mHp → Prop} (kk : ∀ A', Fr [30] A A' → (∀ k, k < cn + 1 → A' 30 k = nI (insF f (rkI D f (bB D s) cn) s k)) → Q (.inl none, hS n u (va_up I 40 (nI (cn + 1))) A' J B mk sn L xs X)) : mq 33 0 [some (.ref 1), some (.ref 13), some (.int (nI s)), none, none] [] (hS n u I A J B mk sn L xs X) Q := by
  refine x_const (pc := 0) (pc' := 1) (.int (nI 0)) rfl rfl rfl rfl ?_
  refine x_is1 (pc := 1) (ml' := [some (.ref 1), some (.ref 13), some (.int (nI s)), some (.int (nI 0)), none]) rfl rfl ?_
  refine x_const (pc := 2) (pc' := 3) (.int (nI 0)) rfl rfl rfl rfl ?_
  refine x_is2 (pc := 3) (ml' := [some (.ref 1), some (.ref 13), some (.int (nI s)), some (.int (nI 0)), some (.int (nI 0))]) rfl rfl ?_
  refine l_33_0 h hcn hs hf hbs hc hsl cn 0 (Nat.zero_add _) ?_
  refine x_al1 (pc := 50) rfl rfl ?_
  refine x_il1 (pc := 51) rfl rfl ?_
  refine x_il1 (pc := 52) rfl rfl ?_
  refine x_k (pc := 53) rfl rfl rfl ⟨Nat.le_of_ble_eq_true rfl, Nat.le_of_ble_eq_true rfl, Nat.le_of_ble_eq_true rfl⟩ rfl (k_34_0 (I := I) (A := A) (f := f) (j := rkI D f (bB D s) cn) (s := s) hcn1 (rkI_le _ _ _ _) hc hsl (fun A1 g1 h1 => ?_))
  show mq 33 56 [some (.ref 1), some (.ref 13), some (.int (nI s)), some (.int (nI (rkI D f (bB D s) cn))), some (.int (nI cn))] [] (hS n u (va_up I 40 (nI (cn + 1))) A1 J B mk sn L xs X) _
  refine x_ret (pc := 56) rfl rfl ?_
  exact kk A1 g1 h1
set_option maxRecDepth 100000 in
set_option maxHeartbeats 4000000 in
theorem l_34_1 {cn j s : Nat} {f : Nat → Nat} (hcn : cn < 16) (hc : I 43 = nI cn) {Q : mO × mHp → Prop} : ∀ (z : Nat) {A : Nat → Nat → Int32}, (j + z ≤ cn) → (∀ k, k < j + z → A 34 k = nI (f k)) → (∀ k, j + z < k → k < cn + 1 → A 34 k = nI (f (k - 1))) → (∀ A', Fr [34] A A' → (∀ k, k < cn + 1 → A' 34 k = nI (insF f j s k)) → Q (.inl none, hS n u (va_up I 43 (nI (cn + 1))) A' J B mk sn L xs X)) → mq 34 27 [some (.ref 18), some (.int (nI j)), some (.int (nI s)), some (.int (nI (j + z)))] [] (hS n u I A J B mk sn L xs X) Q := by
  intro z
  induction z with
  | zero =>
    intro A hz h1 h2 kk
    refine x_il1 (pc := 27) rfl rfl ?_
    refine x_il1 (pc := 28) rfl rfl ?_
    refine x_cmpN_le (pc := 29) (t := 52) rfl rfl (by omega) (by omega) (fun c29 => ?_) (fun c29 => ?_)
    · refine x_al1 (pc := 52) rfl rfl ?_
      refine g_18_1 (pc := 53) rfl rfl ?_
      refine x_il1 (pc := 56) rfl rfl ?_
      refine x_il1 (pc := 57) rfl rfl ?_
      refine as_19 (pc := 58) (q := j) rfl rfl (by omega) ?_
      refine x_al1 (pc := 59) rfl rfl ?_
      refine x_step (pc := 60) (pc' := 61) (st' := [.ref 18, .ref 18]) rfl rfl rfl rfl ?_
      refine g_18_5 (pc := 61) (v := nI cn) rfl rfl hc ?_
      refine x_const (pc := 64) (pc' := 65) (.int (nI 1)) rfl rfl rfl rfl ?_
      refine x_iaddN (pc := 65) (c := cn + 1) rfl rfl ?_
      refine p_18_5 (pc := 66) rfl rfl ?_
      refine x_ret (pc := 69) rfl rfl ?_
      refine kk _ (Fr_u (Fr_refl _ _) (by decide)) (fun k hk => ?_)
      unfold insF
      by_cases h5 : k = j
      · rw [if_neg (by omega), if_pos h5, h5]
        exact pk_us
      · rw [show (va_up A 34 (upd (A 34) j (nI s))) 34 k = A 34 k from pk_un h5]
        by_cases h6 : k < j
        · rw [if_pos h6]
          exact h1 k h6
        · rw [if_neg h6, if_neg h5]
          exact h2 k (by omega) hk
    · omega
  | succ z ih =>
    intro A hz h1 h2 kk
    refine x_il1 (pc := 27) rfl rfl ?_
    refine x_il1 (pc := 28) rfl rfl ?_
    refine x_cmpN_le (pc := 29) (t := 52) rfl rfl (by omega) (by omega) (fun c29 => ?_) (fun c29 => ?_)
    · omega
    · refine x_al1 (pc := 32) rfl rfl ?_
      refine g_18_1 (pc := 33) rfl rfl ?_
      refine x_il1 (pc := 36) rfl rfl ?_
      refine x_al1 (pc := 37) rfl rfl ?_
      refine g_18_1 (pc := 38) rfl rfl ?_
      refine x_il1 (pc := 41) rfl rfl ?_
      refine x_const (pc := 42) (pc' := 43) (.int (nI 1)) rfl rfl rfl rfl ?_
      refine x_isubN (pc := 43) rfl ((by omega)) ?_
      refine al_19 (pc := 44) (q := j + z) (v := nI (f (j + z))) rfl (congrArg nI (by omega)) (by omega) (h1 _ (by omega)) ?_
      refine as_19 (pc := 45) (q := j + (z + 1)) rfl rfl (by omega) ?_
      refine x_iincV (pc := 46) (v := nI (j + z)) (ml' := [some (.ref 18), some (.int (nI j)), some (.int (nI s)), some (.int (nI (j + z)))]) rfl rfl (pk_m1 (j + z)) rfl ?_
      refine x_step (pc := 49) (pc' := 27) rfl rfl rfl rfl ?_
      refine ih (A := va_up A 34 (upd (A 34) (j + (z + 1)) (nI (f (j + z))))) (by omega) (fun k hk => (pk_un (by omega)).trans (h1 k (by omega))) (fun k hk1 hk2 => ?_) (fun A9 g9 h9 => kk A9 (Fr_cons (Fr_u (Fr_refl _ _) (by decide)) g9 (by decide)) h9)
      by_cases h5 : k = j + (z + 1)
      · rw [h5]
        exact pk_us
      · exact (pk_un h5).trans (h2 k (by omega) hk2)
set_option maxRecDepth 100000 in
set_option maxHeartbeats 4000000 in
theorem k_34_1 {cn j s : Nat} {f : Nat → Nat} (hcn : cn < 16) (hj : j ≤ cn) (hc : I 43 = nI cn) (hsl : ∀ k, k < cn → A 34 k = nI (f k)) {Q : mO × mHp → Prop} (kk : ∀ A', Fr [34] A A' → (∀ k, k < cn + 1 → A' 34 k = nI (insF f j s k)) → Q (.inl none, hS n u (va_up I 43 (nI (cn + 1))) A' J B mk sn L xs X)) : mq 34 0 [some (.ref 18), some (.int (nI j)), some (.int (nI s)), none] [] (hS n u I A J B mk sn L xs X) Q := by
  refine x_al1 (pc := 0) rfl rfl ?_
  refine g_18_5 (pc := 1) (v := nI cn) rfl rfl hc ?_
  refine x_const (pc := 4) (pc' := 6) (.int (nI 16)) rfl rfl rfl rfl ?_
  refine x_cmpN_ge (pc := 6) (t := 21) rfl rfl (by omega) (by omega) (fun c6 => ?_) (fun c6 => ?_)
  · omega
  · refine x_il1 (pc := 9) rfl rfl ?_
    refine x_ifN_lt (pc := 10) (t := 21) rfl rfl (by omega) ?_
    refine x_il1 (pc := 13) rfl rfl ?_
    refine x_al1 (pc := 14) rfl rfl ?_
    refine g_18_5 (pc := 15) (v := nI cn) rfl rfl hc ?_
    refine x_cmpN_le (pc := 18) (t := 22) rfl rfl (by omega) (by omega) (fun c18 => ?_) (fun c18 => ?_)
    · refine x_al1 (pc := 22) rfl rfl ?_
      refine g_18_5 (pc := 23) (v := nI cn) rfl rfl hc ?_
      refine x_is1 (pc := 26) (ml' := [some (.ref 18), some (.int (nI j)), some (.int (nI s)), some (.int (nI cn))]) rfl rfl ?_
      obtain ⟨z, hz⟩ : ∃ z, cn = j + z := ⟨cn - j, by omega⟩
      subst hz
      exact l_34_1 (f := f) hcn hc z (Nat.le_refl _) hsl (fun k h1 h2 => by omega) kk
    · omega
set_option maxRecDepth 100000 in
set_option maxHeartbeats 4000000 in
theorem l_33_1 (h : DK (A 0) D) {cn s : Nat} {f : Nat → Nat} (hcn : cn ≤ 16) (hs : s < 16) (hf : ∀ k, k < cn → f k < 16 ∧ bB D (f k) < 2 ^ 31) (hbs : bB D s < 2 ^ 31) (hc : I 43 = nI cn) (hsl : ∀ k, k < cn → A 34 k = nI (f k)) {Q : mO × mHp → Prop} : ∀ (z k : Nat) , (k + z = cn) → (mq 33 50 [some (.ref 1), some (.ref 18), some (.int (nI s)), some (.int (nI (rkI D f (bB D s) cn))), some (.int (nI cn))] [] (hS n u I A J B mk sn L xs X) Q) → mq 33 5 [some (.ref 1), some (.ref 18), some (.int (nI s)), some (.int (nI (rkI D f (bB D s) k))), some (.int (nI k))] [] (hS n u I A J B mk sn L xs X) Q := by
  intro z
  induction z with
  | zero =>
    intro k  hz kk
    refine x_il2 (pc := 5) rfl rfl ?_
    refine x_al1 (pc := 7) rfl rfl ?_
    refine g_18_5 (pc := 8) (v := nI cn) rfl rfl hc ?_
    refine x_cmpN_ge (pc := 11) (t := 50) rfl rfl (by omega) (by omega) (fun c11 => ?_) (fun c11 => ?_)
    · rw [show k = cn by omega]
      exact kk
    · omega
  | succ z ih =>
    intro k  hz kk
    refine x_il2 (pc := 5) rfl rfl ?_
    refine x_al1 (pc := 7) rfl rfl ?_
    refine g_18_5 (pc := 8) (v := nI cn) rfl rfl hc ?_
    refine x_cmpN_ge (pc := 11) (t := 50) rfl rfl (by omega) (by omega) (fun c11 => ?_) (fun c11 => ?_)
    · omega
    · refine x_al1 (pc := 14) rfl rfl ?_
      refine g_1_0 (pc := 15) rfl rfl ?_
      refine x_al1 (pc := 18) rfl rfl ?_
      refine g_18_1 (pc := 19) rfl rfl ?_
      refine x_il2 (pc := 22) rfl rfl ?_
      refine al_19 (pc := 24) (q := k) (v := nI (f k)) rfl rfl (by omega) (hsl k (by omega)) ?_
      refine x_k (pc := 25) rfl rfl rfl ⟨Nat.le_of_ble_eq_true rfl, Nat.le_of_ble_eq_true rfl, Nat.le_of_ble_eq_true rfl⟩ rfl (mq_k (c_22 h (hf k (by omega)).1) ?_)
      show mq 33 28 [some (.ref 1), some (.ref 18), some (.int (nI s)), some (.int (nI (rkI D f (bB D s) k))), some (.int (nI k))] [.int (nI (bB D (f k)))] (hS n u I A J B mk sn L xs X) _
      refine x_al1 (pc := 28) rfl rfl ?_
      refine g_1_0 (pc := 29) rfl rfl ?_
      refine x_il1 (pc := 32) rfl rfl ?_
      refine x_k (pc := 33) rfl rfl rfl ⟨Nat.le_of_ble_eq_true rfl, Nat.le_of_ble_eq_true rfl, Nat.le_of_ble_eq_true rfl⟩ rfl (mq_k (c_22 h hs) ?_)
      show mq 33 36 [some (.ref 1), some (.ref 18), some (.int (nI s)), some (.int (nI (rkI D f (bB D s) k))), some (.int (nI k))] [.int (nI (bB D s)), .int (nI (bB D (f k)))] (hS n u I A J B mk sn L xs X) _
      refine x_cmpN_ge (pc := 36) (t := 44) rfl rfl (by have := (hf k (by omega)).2; omega) (by omega) (fun c36 => ?_) (fun c36 => ?_)
      · have e : rkI D f (bB D s) (k + 1) = rkI D f (bB D s) k := if_neg (by omega)
        refine x_iincN (pc := 44) (c := 1) (ml' := [some (.ref 1), some (.ref 18), some (.int (nI s)), some (.int (nI (rkI D f (bB D s) k))), some (.int (nI (k + 1)))]) rfl rfl rfl rfl ?_
        refine x_step (pc := 47) (pc' := 5) rfl rfl rfl rfl ?_
        have ihk := ih (k + 1) (by omega) kk
        rw [e] at ihk
        exact ihk
      · have e : rkI D f (bB D s) (k + 1) = k + 1 := if_pos (by omega)
        refine x_il2 (pc := 39) rfl rfl ?_
        refine x_const (pc := 41) (pc' := 42) (.int (nI 1)) rfl rfl rfl rfl ?_
        refine x_iaddN (pc := 42) (c := k + 1) rfl rfl ?_
        refine x_is1 (pc := 43) (ml' := [some (.ref 1), some (.ref 18), some (.int (nI s)), some (.int (nI (k + 1))), some (.int (nI k))]) rfl rfl ?_
        refine x_iincN (pc := 44) (c := 1) (ml' := [some (.ref 1), some (.ref 18), some (.int (nI s)), some (.int (nI (k + 1))), some (.int (nI (k + 1)))]) rfl rfl rfl rfl ?_
        refine x_step (pc := 47) (pc' := 5) rfl rfl rfl rfl ?_
        have ihk := ih (k + 1) (by omega) kk
        rw [e] at ihk
        exact ihk
set_option maxRecDepth 100000 in
set_option maxHeartbeats 4000000 in
theorem k_33_1 (h : DK (A 0) D) {cn s : Nat} {f : Nat → Nat} (hcn : cn ≤ 16) (hs : s < 16) (hf : ∀ k, k < cn → f k < 16 ∧ bB D (f k) < 2 ^ 31) (hbs : bB D s < 2 ^ 31) (hc : I 43 = nI cn) (hsl : ∀ k, k < cn → A 34 k = nI (f k)) (hcn1 : cn < 16) {Q : mO × mHp → Prop} (kk : ∀ A', Fr [34] A A' → (∀ k, k < cn + 1 → A' 34 k = nI (insF f (rkI D f (bB D s) cn) s k)) → Q (.inl none, hS n u (va_up I 43 (nI (cn + 1))) A' J B mk sn L xs X)) : mq 33 0 [some (.ref 1), some (.ref 18), some (.int (nI s)), none, none] [] (hS n u I A J B mk sn L xs X) Q := by
  refine x_const (pc := 0) (pc' := 1) (.int (nI 0)) rfl rfl rfl rfl ?_
  refine x_is1 (pc := 1) (ml' := [some (.ref 1), some (.ref 18), some (.int (nI s)), some (.int (nI 0)), none]) rfl rfl ?_
  refine x_const (pc := 2) (pc' := 3) (.int (nI 0)) rfl rfl rfl rfl ?_
  refine x_is2 (pc := 3) (ml' := [some (.ref 1), some (.ref 18), some (.int (nI s)), some (.int (nI 0)), some (.int (nI 0))]) rfl rfl ?_
  refine l_33_1 h hcn hs hf hbs hc hsl cn 0 (Nat.zero_add _) ?_
  refine x_al1 (pc := 50) rfl rfl ?_
  refine x_il1 (pc := 51) rfl rfl ?_
  refine x_il1 (pc := 52) rfl rfl ?_
  refine x_k (pc := 53) rfl rfl rfl ⟨Nat.le_of_ble_eq_true rfl, Nat.le_of_ble_eq_true rfl, Nat.le_of_ble_eq_true rfl⟩ rfl (k_34_1 (I := I) (A := A) (f := f) (j := rkI D f (bB D s) cn) (s := s) hcn1 (rkI_le _ _ _ _) hc hsl (fun A1 g1 h1 => ?_))
  show mq 33 56 [some (.ref 1), some (.ref 18), some (.int (nI s)), some (.int (nI (rkI D f (bB D s) cn))), some (.int (nI cn))] [] (hS n u (va_up I 43 (nI (cn + 1))) A1 J B mk sn L xs X) _
  refine x_ret (pc := 56) rfl rfl ?_
  exact kk A1 g1 h1
set_option maxRecDepth 100000 in
set_option maxHeartbeats 4000000 in
theorem l_34_2 {cn j s : Nat} {f : Nat → Nat} (hcn : cn < 16) (hc : I 46 = nI cn) {Q : mO × mHp → Prop} : ∀ (z : Nat) {A : Nat → Nat → Int32}, (j + z ≤ cn) → (∀ k, k < j + z → A 38 k = nI (f k)) → (∀ k, j + z < k → k < cn + 1 → A 38 k = nI (f (k - 1))) → (∀ A', Fr [38] A A' → (∀ k, k < cn + 1 → A' 38 k = nI (insF f j s k)) → Q (.inl none, hS n u (va_up I 46 (nI (cn + 1))) A' J B mk sn L xs X)) → mq 34 27 [some (.ref 23), some (.int (nI j)), some (.int (nI s)), some (.int (nI (j + z)))] [] (hS n u I A J B mk sn L xs X) Q := by
  intro z
  induction z with
  | zero =>
    intro A hz h1 h2 kk
    refine x_il1 (pc := 27) rfl rfl ?_
    refine x_il1 (pc := 28) rfl rfl ?_
    refine x_cmpN_le (pc := 29) (t := 52) rfl rfl (by omega) (by omega) (fun c29 => ?_) (fun c29 => ?_)
    · refine x_al1 (pc := 52) rfl rfl ?_
      refine g_23_1 (pc := 53) rfl rfl ?_
      refine x_il1 (pc := 56) rfl rfl ?_
      refine x_il1 (pc := 57) rfl rfl ?_
      refine as_24 (pc := 58) (q := j) rfl rfl (by omega) ?_
      refine x_al1 (pc := 59) rfl rfl ?_
      refine x_step (pc := 60) (pc' := 61) (st' := [.ref 23, .ref 23]) rfl rfl rfl rfl ?_
      refine g_23_5 (pc := 61) (v := nI cn) rfl rfl hc ?_
      refine x_const (pc := 64) (pc' := 65) (.int (nI 1)) rfl rfl rfl rfl ?_
      refine x_iaddN (pc := 65) (c := cn + 1) rfl rfl ?_
      refine p_23_5 (pc := 66) rfl rfl ?_
      refine x_ret (pc := 69) rfl rfl ?_
      refine kk _ (Fr_u (Fr_refl _ _) (by decide)) (fun k hk => ?_)
      unfold insF
      by_cases h5 : k = j
      · rw [if_neg (by omega), if_pos h5, h5]
        exact pk_us
      · rw [show (va_up A 38 (upd (A 38) j (nI s))) 38 k = A 38 k from pk_un h5]
        by_cases h6 : k < j
        · rw [if_pos h6]
          exact h1 k h6
        · rw [if_neg h6, if_neg h5]
          exact h2 k (by omega) hk
    · omega
  | succ z ih =>
    intro A hz h1 h2 kk
    refine x_il1 (pc := 27) rfl rfl ?_
    refine x_il1 (pc := 28) rfl rfl ?_
    refine x_cmpN_le (pc := 29) (t := 52) rfl rfl (by omega) (by omega) (fun c29 => ?_) (fun c29 => ?_)
    · omega
    · refine x_al1 (pc := 32) rfl rfl ?_
      refine g_23_1 (pc := 33) rfl rfl ?_
      refine x_il1 (pc := 36) rfl rfl ?_
      refine x_al1 (pc := 37) rfl rfl ?_
      refine g_23_1 (pc := 38) rfl rfl ?_
      refine x_il1 (pc := 41) rfl rfl ?_
      refine x_const (pc := 42) (pc' := 43) (.int (nI 1)) rfl rfl rfl rfl ?_
      refine x_isubN (pc := 43) rfl ((by omega)) ?_
      refine al_24 (pc := 44) (q := j + z) (v := nI (f (j + z))) rfl (congrArg nI (by omega)) (by omega) (h1 _ (by omega)) ?_
      refine as_24 (pc := 45) (q := j + (z + 1)) rfl rfl (by omega) ?_
      refine x_iincV (pc := 46) (v := nI (j + z)) (ml' := [some (.ref 23), some (.int (nI j)), some (.int (nI s)), some (.int (nI (j + z)))]) rfl rfl (pk_m1 (j + z)) rfl ?_
      refine x_step (pc := 49) (pc' := 27) rfl rfl rfl rfl ?_
      refine ih (A := va_up A 38 (upd (A 38) (j + (z + 1)) (nI (f (j + z))))) (by omega) (fun k hk => (pk_un (by omega)).trans (h1 k (by omega))) (fun k hk1 hk2 => ?_) (fun A9 g9 h9 => kk A9 (Fr_cons (Fr_u (Fr_refl _ _) (by decide)) g9 (by decide)) h9)
      by_cases h5 : k = j + (z + 1)
      · rw [h5]
        exact pk_us
      · exact (pk_un h5).trans (h2 k (by omega) hk2)
set_option maxRecDepth 100000 in
set_option maxHeartbeats 4000000 in
theorem k_34_2 {cn j s : Nat} {f : Nat → Nat} (hcn : cn < 16) (hj : j ≤ cn) (hc : I 46 = nI cn) (hsl : ∀ k, k < cn → A 38 k = nI (f k)) {Q : mO × mHp → Prop} (kk : ∀ A', Fr [38] A A' → (∀ k, k < cn + 1 → A' 38 k = nI (insF f j s k)) → Q (.inl none, hS n u (va_up I 46 (nI (cn + 1))) A' J B mk sn L xs X)) : mq 34 0 [some (.ref 23), some (.int (nI j)), some (.int (nI s)), none] [] (hS n u I A J B mk sn L xs X) Q := by
  refine x_al1 (pc := 0) rfl rfl ?_
  refine g_23_5 (pc := 1) (v := nI cn) rfl rfl hc ?_
  refine x_const (pc := 4) (pc' := 6) (.int (nI 16)) rfl rfl rfl rfl ?_
  refine x_cmpN_ge (pc := 6) (t := 21) rfl rfl (by omega) (by omega) (fun c6 => ?_) (fun c6 => ?_)
  · omega
  · refine x_il1 (pc := 9) rfl rfl ?_
    refine x_ifN_lt (pc := 10) (t := 21) rfl rfl (by omega) ?_
    refine x_il1 (pc := 13) rfl rfl ?_
    refine x_al1 (pc := 14) rfl rfl ?_
    refine g_23_5 (pc := 15) (v := nI cn) rfl rfl hc ?_
    refine x_cmpN_le (pc := 18) (t := 22) rfl rfl (by omega) (by omega) (fun c18 => ?_) (fun c18 => ?_)
    · refine x_al1 (pc := 22) rfl rfl ?_
      refine g_23_5 (pc := 23) (v := nI cn) rfl rfl hc ?_
      refine x_is1 (pc := 26) (ml' := [some (.ref 23), some (.int (nI j)), some (.int (nI s)), some (.int (nI cn))]) rfl rfl ?_
      obtain ⟨z, hz⟩ : ∃ z, cn = j + z := ⟨cn - j, by omega⟩
      subst hz
      exact l_34_2 (f := f) hcn hc z (Nat.le_refl _) hsl (fun k h1 h2 => by omega) kk
    · omega
set_option maxRecDepth 100000 in
set_option maxHeartbeats 4000000 in
theorem l_33_2 (h : DK (A 0) D) {cn s : Nat} {f : Nat → Nat} (hcn : cn ≤ 16) (hs : s < 16) (hf : ∀ k, k < cn → f k < 16 ∧ bB D (f k) < 2 ^ 31) (hbs : bB D s < 2 ^ 31) (hc : I 46 = nI cn) (hsl : ∀ k, k < cn → A 38 k = nI (f k)) {Q : mO × mHp → Prop} : ∀ (z k : Nat) , (k + z = cn) → (mq 33 50 [some (.ref 1), some (.ref 23), some (.int (nI s)), some (.int (nI (rkI D f (bB D s) cn))), some (.int (nI cn))] [] (hS n u I A J B mk sn L xs X) Q) → mq 33 5 [some (.ref 1), some (.ref 23), some (.int (nI s)), some (.int (nI (rkI D f (bB D s) k))), some (.int (nI k))] [] (hS n u I A J B mk sn L xs X) Q := by
  intro z
  induction z with
  | zero =>
    intro k  hz kk
    refine x_il2 (pc := 5) rfl rfl ?_
    refine x_al1 (pc := 7) rfl rfl ?_
    refine g_23_5 (pc := 8) (v := nI cn) rfl rfl hc ?_
    refine x_cmpN_ge (pc := 11) (t := 50) rfl rfl (by omega) (by omega) (fun c11 => ?_) (fun c11 => ?_)
    · rw [show k = cn by omega]
      exact kk
    · omega
  | succ z ih =>
    intro k  hz kk
    refine x_il2 (pc := 5) rfl rfl ?_
    refine x_al1 (pc := 7) rfl rfl ?_
    refine g_23_5 (pc := 8) (v := nI cn) rfl rfl hc ?_
    refine x_cmpN_ge (pc := 11) (t := 50) rfl rfl (by omega) (by omega) (fun c11 => ?_) (fun c11 => ?_)
    · omega
    · refine x_al1 (pc := 14) rfl rfl ?_
      refine g_1_0 (pc := 15) rfl rfl ?_
      refine x_al1 (pc := 18) rfl rfl ?_
      refine g_23_1 (pc := 19) rfl rfl ?_
      refine x_il2 (pc := 22) rfl rfl ?_
      refine al_24 (pc := 24) (q := k) (v := nI (f k)) rfl rfl (by omega) (hsl k (by omega)) ?_
      refine x_k (pc := 25) rfl rfl rfl ⟨Nat.le_of_ble_eq_true rfl, Nat.le_of_ble_eq_true rfl, Nat.le_of_ble_eq_true rfl⟩ rfl (mq_k (c_22 h (hf k (by omega)).1) ?_)
      show mq 33 28 [some (.ref 1), some (.ref 23), some (.int (nI s)), some (.int (nI (rkI D f (bB D s) k))), some (.int (nI k))] [.int (nI (bB D (f k)))] (hS n u I A J B mk sn L xs X) _
      refine x_al1 (pc := 28) rfl rfl ?_
      refine g_1_0 (pc := 29) rfl rfl ?_
      refine x_il1 (pc := 32) rfl rfl ?_
      refine x_k (pc := 33) rfl rfl rfl ⟨Nat.le_of_ble_eq_true rfl, Nat.le_of_ble_eq_true rfl, Nat.le_of_ble_eq_true rfl⟩ rfl (mq_k (c_22 h hs) ?_)
      show mq 33 36 [some (.ref 1), some (.ref 23), some (.int (nI s)), some (.int (nI (rkI D f (bB D s) k))), some (.int (nI k))] [.int (nI (bB D s)), .int (nI (bB D (f k)))] (hS n u I A J B mk sn L xs X) _
      refine x_cmpN_ge (pc := 36) (t := 44) rfl rfl (by have := (hf k (by omega)).2; omega) (by omega) (fun c36 => ?_) (fun c36 => ?_)
      · have e : rkI D f (bB D s) (k + 1) = rkI D f (bB D s) k := if_neg (by omega)
        refine x_iincN (pc := 44) (c := 1) (ml' := [some (.ref 1), some (.ref 23), some (.int (nI s)), some (.int (nI (rkI D f (bB D s) k))), some (.int (nI (k + 1)))]) rfl rfl rfl rfl ?_
        refine x_step (pc := 47) (pc' := 5) rfl rfl rfl rfl ?_
        have ihk := ih (k + 1) (by omega) kk
        rw [e] at ihk
        exact ihk
      · have e : rkI D f (bB D s) (k + 1) = k + 1 := if_pos (by omega)
        refine x_il2 (pc := 39) rfl rfl ?_
        refine x_const (pc := 41) (pc' := 42) (.int (nI 1)) rfl rfl rfl rfl ?_
        refine x_iaddN (pc := 42) (c := k + 1) rfl rfl ?_
        refine x_is1 (pc := 43) (ml' := [some (.ref 1), some (.ref 23), some (.int (nI s)), some (.int (nI (k + 1))), some (.int (nI k))]) rfl rfl ?_
        refine x_iincN (pc := 44) (c := 1) (ml' := [some (.ref 1), some (.ref 23), some (.int (nI s)), some (.int (nI (k + 1))), some (.int (nI (k + 1)))]) rfl rfl rfl rfl ?_
        refine x_step (pc := 47) (pc' := 5) rfl rfl rfl rfl ?_
        have ihk := ih (k + 1) (by omega) kk
        rw [e] at ihk
        exact ihk
set_option maxRecDepth 100000 in
set_option maxHeartbeats 4000000 in
theorem k_33_2 (h : DK (A 0) D) {cn s : Nat} {f : Nat → Nat} (hcn : cn ≤ 16) (hs : s < 16) (hf : ∀ k, k < cn → f k < 16 ∧ bB D (f k) < 2 ^ 31) (hbs : bB D s < 2 ^ 31) (hc : I 46 = nI cn) (hsl : ∀ k, k < cn → A 38 k = nI (f k)) (hcn1 : cn < 16) {Q : mO × mHp → Prop} (kk : ∀ A', Fr [38] A A' → (∀ k, k < cn + 1 → A' 38 k = nI (insF f (rkI D f (bB D s) cn) s k)) → Q (.inl none, hS n u (va_up I 46 (nI (cn + 1))) A' J B mk sn L xs X)) : mq 33 0 [some (.ref 1), some (.ref 23), some (.int (nI s)), none, none] [] (hS n u I A J B mk sn L xs X) Q := by
  refine x_const (pc := 0) (pc' := 1) (.int (nI 0)) rfl rfl rfl rfl ?_
  refine x_is1 (pc := 1) (ml' := [some (.ref 1), some (.ref 23), some (.int (nI s)), some (.int (nI 0)), none]) rfl rfl ?_
  refine x_const (pc := 2) (pc' := 3) (.int (nI 0)) rfl rfl rfl rfl ?_
  refine x_is2 (pc := 3) (ml' := [some (.ref 1), some (.ref 23), some (.int (nI s)), some (.int (nI 0)), some (.int (nI 0))]) rfl rfl ?_
  refine l_33_2 h hcn hs hf hbs hc hsl cn 0 (Nat.zero_add _) ?_
  refine x_al1 (pc := 50) rfl rfl ?_
  refine x_il1 (pc := 51) rfl rfl ?_
  refine x_il1 (pc := 52) rfl rfl ?_
  refine x_k (pc := 53) rfl rfl rfl ⟨Nat.le_of_ble_eq_true rfl, Nat.le_of_ble_eq_true rfl, Nat.le_of_ble_eq_true rfl⟩ rfl (k_34_2 (I := I) (A := A) (f := f) (j := rkI D f (bB D s) cn) (s := s) hcn1 (rkI_le _ _ _ _) hc hsl (fun A1 g1 h1 => ?_))
  show mq 33 56 [some (.ref 1), some (.ref 23), some (.int (nI s)), some (.int (nI (rkI D f (bB D s) cn))), some (.int (nI cn))] [] (hS n u (va_up I 46 (nI (cn + 1))) A1 J B mk sn L xs X) _
  refine x_ret (pc := 56) rfl rfl ?_
  exact kk A1 g1 h1
set_option maxRecDepth 100000 in
set_option maxHeartbeats 4000000 in
theorem l_34_3 {cn j s : Nat} {f : Nat → Nat} (hcn : cn < 16) (hc : I 49 = nI cn) {Q : mO × mHp → Prop} : ∀ (z : Nat) {A : Nat → Nat → Int32}, (j + z ≤ cn) → (∀ k, k < j + z → A 42 k = nI (f k)) → (∀ k, j + z < k → k < cn + 1 → A 42 k = nI (f (k - 1))) → (∀ A', Fr [42] A A' → (∀ k, k < cn + 1 → A' 42 k = nI (insF f j s k)) → Q (.inl none, hS n u (va_up I 49 (nI (cn + 1))) A' J B mk sn L xs X)) → mq 34 27 [some (.ref 28), some (.int (nI j)), some (.int (nI s)), some (.int (nI (j + z)))] [] (hS n u I A J B mk sn L xs X) Q := by
  intro z
  induction z with
  | zero =>
    intro A hz h1 h2 kk
    refine x_il1 (pc := 27) rfl rfl ?_
    refine x_il1 (pc := 28) rfl rfl ?_
    refine x_cmpN_le (pc := 29) (t := 52) rfl rfl (by omega) (by omega) (fun c29 => ?_) (fun c29 => ?_)
    · refine x_al1 (pc := 52) rfl rfl ?_
      refine g_28_1 (pc := 53) rfl rfl ?_
      refine x_il1 (pc := 56) rfl rfl ?_
      refine x_il1 (pc := 57) rfl rfl ?_
      refine as_29 (pc := 58) (q := j) rfl rfl (by omega) ?_
      refine x_al1 (pc := 59) rfl rfl ?_
      refine x_step (pc := 60) (pc' := 61) (st' := [.ref 28, .ref 28]) rfl rfl rfl rfl ?_
      refine g_28_5 (pc := 61) (v := nI cn) rfl rfl hc ?_
      refine x_const (pc := 64) (pc' := 65) (.int (nI 1)) rfl rfl rfl rfl ?_
      refine x_iaddN (pc := 65) (c := cn + 1) rfl rfl ?_
      refine p_28_5 (pc := 66) rfl rfl ?_
      refine x_ret (pc := 69) rfl rfl ?_
      refine kk _ (Fr_u (Fr_refl _ _) (by decide)) (fun k hk => ?_)
      unfold insF
      by_cases h5 : k = j
      · rw [if_neg (by omega), if_pos h5, h5]
        exact pk_us
      · rw [show (va_up A 42 (upd (A 42) j (nI s))) 42 k = A 42 k from pk_un h5]
        by_cases h6 : k < j
        · rw [if_pos h6]
          exact h1 k h6
        · rw [if_neg h6, if_neg h5]
          exact h2 k (by omega) hk
    · omega
  | succ z ih =>
    intro A hz h1 h2 kk
    refine x_il1 (pc := 27) rfl rfl ?_
    refine x_il1 (pc := 28) rfl rfl ?_
    refine x_cmpN_le (pc := 29) (t := 52) rfl rfl (by omega) (by omega) (fun c29 => ?_) (fun c29 => ?_)
    · omega
    · refine x_al1 (pc := 32) rfl rfl ?_
      refine g_28_1 (pc := 33) rfl rfl ?_
      refine x_il1 (pc := 36) rfl rfl ?_
      refine x_al1 (pc := 37) rfl rfl ?_
      refine g_28_1 (pc := 38) rfl rfl ?_
      refine x_il1 (pc := 41) rfl rfl ?_
      refine x_const (pc := 42) (pc' := 43) (.int (nI 1)) rfl rfl rfl rfl ?_
      refine x_isubN (pc := 43) rfl ((by omega)) ?_
      refine al_29 (pc := 44) (q := j + z) (v := nI (f (j + z))) rfl (congrArg nI (by omega)) (by omega) (h1 _ (by omega)) ?_
      refine as_29 (pc := 45) (q := j + (z + 1)) rfl rfl (by omega) ?_
      refine x_iincV (pc := 46) (v := nI (j + z)) (ml' := [some (.ref 28), some (.int (nI j)), some (.int (nI s)), some (.int (nI (j + z)))]) rfl rfl (pk_m1 (j + z)) rfl ?_
      refine x_step (pc := 49) (pc' := 27) rfl rfl rfl rfl ?_
      refine ih (A := va_up A 42 (upd (A 42) (j + (z + 1)) (nI (f (j + z))))) (by omega) (fun k hk => (pk_un (by omega)).trans (h1 k (by omega))) (fun k hk1 hk2 => ?_) (fun A9 g9 h9 => kk A9 (Fr_cons (Fr_u (Fr_refl _ _) (by decide)) g9 (by decide)) h9)
      by_cases h5 : k = j + (z + 1)
      · rw [h5]
        exact pk_us
      · exact (pk_un h5).trans (h2 k (by omega) hk2)
set_option maxRecDepth 100000 in
set_option maxHeartbeats 4000000 in
theorem k_34_3 {cn j s : Nat} {f : Nat → Nat} (hcn : cn < 16) (hj : j ≤ cn) (hc : I 49 = nI cn) (hsl : ∀ k, k < cn → A 42 k = nI (f k)) {Q : mO × mHp → Prop} (kk : ∀ A', Fr [42] A A' → (∀ k, k < cn + 1 → A' 42 k = nI (insF f j s k)) → Q (.inl none, hS n u (va_up I 49 (nI (cn + 1))) A' J B mk sn L xs X)) : mq 34 0 [some (.ref 28), some (.int (nI j)), some (.int (nI s)), none] [] (hS n u I A J B mk sn L xs X) Q := by
  refine x_al1 (pc := 0) rfl rfl ?_
  refine g_28_5 (pc := 1) (v := nI cn) rfl rfl hc ?_
  refine x_const (pc := 4) (pc' := 6) (.int (nI 16)) rfl rfl rfl rfl ?_
  refine x_cmpN_ge (pc := 6) (t := 21) rfl rfl (by omega) (by omega) (fun c6 => ?_) (fun c6 => ?_)
  · omega
  · refine x_il1 (pc := 9) rfl rfl ?_
    refine x_ifN_lt (pc := 10) (t := 21) rfl rfl (by omega) ?_
    refine x_il1 (pc := 13) rfl rfl ?_
    refine x_al1 (pc := 14) rfl rfl ?_
    refine g_28_5 (pc := 15) (v := nI cn) rfl rfl hc ?_
    refine x_cmpN_le (pc := 18) (t := 22) rfl rfl (by omega) (by omega) (fun c18 => ?_) (fun c18 => ?_)
    · refine x_al1 (pc := 22) rfl rfl ?_
      refine g_28_5 (pc := 23) (v := nI cn) rfl rfl hc ?_
      refine x_is1 (pc := 26) (ml' := [some (.ref 28), some (.int (nI j)), some (.int (nI s)), some (.int (nI cn))]) rfl rfl ?_
      obtain ⟨z, hz⟩ : ∃ z, cn = j + z := ⟨cn - j, by omega⟩
      subst hz
      exact l_34_3 (f := f) hcn hc z (Nat.le_refl _) hsl (fun k h1 h2 => by omega) kk
    · omega
set_option maxRecDepth 100000 in
set_option maxHeartbeats 4000000 in
theorem l_33_3 (h : DK (A 0) D) {cn s : Nat} {f : Nat → Nat} (hcn : cn ≤ 16) (hs : s < 16) (hf : ∀ k, k < cn → f k < 16 ∧ bB D (f k) < 2 ^ 31) (hbs : bB D s < 2 ^ 31) (hc : I 49 = nI cn) (hsl : ∀ k, k < cn → A 42 k = nI (f k)) {Q : mO × mHp → Prop} : ∀ (z k : Nat) , (k + z = cn) → (mq 33 50 [some (.ref 1), some (.ref 28), some (.int (nI s)), some (.int (nI (rkI D f (bB D s) cn))), some (.int (nI cn))] [] (hS n u I A J B mk sn L xs X) Q) → mq 33 5 [some (.ref 1), some (.ref 28), some (.int (nI s)), some (.int (nI (rkI D f (bB D s) k))), some (.int (nI k))] [] (hS n u I A J B mk sn L xs X) Q := by
  intro z
  induction z with
  | zero =>
    intro k  hz kk
    refine x_il2 (pc := 5) rfl rfl ?_
    refine x_al1 (pc := 7) rfl rfl ?_
    refine g_28_5 (pc := 8) (v := nI cn) rfl rfl hc ?_
    refine x_cmpN_ge (pc := 11) (t := 50) rfl rfl (by omega) (by omega) (fun c11 => ?_) (fun c11 => ?_)
    · rw [show k = cn by omega]
      exact kk
    · omega
  | succ z ih =>
    intro k  hz kk
    refine x_il2 (pc := 5) rfl rfl ?_
    refine x_al1 (pc := 7) rfl rfl ?_
    refine g_28_5 (pc := 8) (v := nI cn) rfl rfl hc ?_
    refine x_cmpN_ge (pc := 11) (t := 50) rfl rfl (by omega) (by omega) (fun c11 => ?_) (fun c11 => ?_)
    · omega
    · refine x_al1 (pc := 14) rfl rfl ?_
      refine g_1_0 (pc := 15) rfl rfl ?_
      refine x_al1 (pc := 18) rfl rfl ?_
      refine g_28_1 (pc := 19) rfl rfl ?_
      refine x_il2 (pc := 22) rfl rfl ?_
      refine al_29 (pc := 24) (q := k) (v := nI (f k)) rfl rfl (by omega) (hsl k (by omega)) ?_
      refine x_k (pc := 25) rfl rfl rfl ⟨Nat.le_of_ble_eq_true rfl, Nat.le_of_ble_eq_true rfl, Nat.le_of_ble_eq_true rfl⟩ rfl (mq_k (c_22 h (hf k (by omega)).1) ?_)
      show mq 33 28 [some (.ref 1), some (.ref 28), some (.int (nI s)), some (.int (nI (rkI D f (bB D s) k))), some (.int (nI k))] [.int (nI (bB D (f k)))] (hS n u I A J B mk sn L xs X) _
      refine x_al1 (pc := 28) rfl rfl ?_
      refine g_1_0 (pc := 29) rfl rfl ?_
      refine x_il1 (pc := 32) rfl rfl ?_
      refine x_k (pc := 33) rfl rfl rfl ⟨Nat.le_of_ble_eq_true rfl, Nat.le_of_ble_eq_true rfl, Nat.le_of_ble_eq_true rfl⟩ rfl (mq_k (c_22 h hs) ?_)
      show mq 33 36 [some (.ref 1), some (.ref 28), some (.int (nI s)), some (.int (nI (rkI D f (bB D s) k))), some (.int (nI k))] [.int (nI (bB D s)), .int (nI (bB D (f k)))] (hS n u I A J B mk sn L xs X) _
      refine x_cmpN_ge (pc := 36) (t := 44) rfl rfl (by have := (hf k (by omega)).2; omega) (by omega) (fun c36 => ?_) (fun c36 => ?_)
      · have e : rkI D f (bB D s) (k + 1) = rkI D f (bB D s) k := if_neg (by omega)
        refine x_iincN (pc := 44) (c := 1) (ml' := [some (.ref 1), some (.ref 28), some (.int (nI s)), some (.int (nI (rkI D f (bB D s) k))), some (.int (nI (k + 1)))]) rfl rfl rfl rfl ?_
        refine x_step (pc := 47) (pc' := 5) rfl rfl rfl rfl ?_
        have ihk := ih (k + 1) (by omega) kk
        rw [e] at ihk
        exact ihk
      · have e : rkI D f (bB D s) (k + 1) = k + 1 := if_pos (by omega)
        refine x_il2 (pc := 39) rfl rfl ?_
        refine x_const (pc := 41) (pc' := 42) (.int (nI 1)) rfl rfl rfl rfl ?_
        refine x_iaddN (pc := 42) (c := k + 1) rfl rfl ?_
        refine x_is1 (pc := 43) (ml' := [some (.ref 1), some (.ref 28), some (.int (nI s)), some (.int (nI (k + 1))), some (.int (nI k))]) rfl rfl ?_
        refine x_iincN (pc := 44) (c := 1) (ml' := [some (.ref 1), some (.ref 28), some (.int (nI s)), some (.int (nI (k + 1))), some (.int (nI (k + 1)))]) rfl rfl rfl rfl ?_
        refine x_step (pc := 47) (pc' := 5) rfl rfl rfl rfl ?_
        have ihk := ih (k + 1) (by omega) kk
        rw [e] at ihk
        exact ihk
set_option maxRecDepth 100000 in
set_option maxHeartbeats 4000000 in
theorem k_33_3 (h : DK (A 0) D) {cn s : Nat} {f : Nat → Nat} (hcn : cn ≤ 16) (hs : s < 16) (hf : ∀ k, k < cn → f k < 16 ∧ bB D (f k) < 2 ^ 31) (hbs : bB D s < 2 ^ 31) (hc : I 49 = nI cn) (hsl : ∀ k, k < cn → A 42 k = nI (f k)) (hcn1 : cn < 16) {Q : mO × mHp → Prop} (kk : ∀ A', Fr [42] A A' → (∀ k, k < cn + 1 → A' 42 k = nI (insF f (rkI D f (bB D s) cn) s k)) → Q (.inl none, hS n u (va_up I 49 (nI (cn + 1))) A' J B mk sn L xs X)) : mq 33 0 [some (.ref 1), some (.ref 28), some (.int (nI s)), none, none] [] (hS n u I A J B mk sn L xs X) Q := by
  refine x_const (pc := 0) (pc' := 1) (.int (nI 0)) rfl rfl rfl rfl ?_
  refine x_is1 (pc := 1) (ml' := [some (.ref 1), some (.ref 28), some (.int (nI s)), some (.int (nI 0)), none]) rfl rfl ?_
  refine x_const (pc := 2) (pc' := 3) (.int (nI 0)) rfl rfl rfl rfl ?_
  refine x_is2 (pc := 3) (ml' := [some (.ref 1), some (.ref 28), some (.int (nI s)), some (.int (nI 0)), some (.int (nI 0))]) rfl rfl ?_
  refine l_33_3 h hcn hs hf hbs hc hsl cn 0 (Nat.zero_add _) ?_
  refine x_al1 (pc := 50) rfl rfl ?_
  refine x_il1 (pc := 51) rfl rfl ?_
  refine x_il1 (pc := 52) rfl rfl ?_
  refine x_k (pc := 53) rfl rfl rfl ⟨Nat.le_of_ble_eq_true rfl, Nat.le_of_ble_eq_true rfl, Nat.le_of_ble_eq_true rfl⟩ rfl (k_34_3 (I := I) (A := A) (f := f) (j := rkI D f (bB D s) cn) (s := s) hcn1 (rkI_le _ _ _ _) hc hsl (fun A1 g1 h1 => ?_))
  show mq 33 56 [some (.ref 1), some (.ref 28), some (.int (nI s)), some (.int (nI (rkI D f (bB D s) cn))), some (.int (nI cn))] [] (hS n u (va_up I 49 (nI (cn + 1))) A1 J B mk sn L xs X) _
  refine x_ret (pc := 56) rfl rfl ?_
  exact kk A1 g1 h1
end S75
