/-! More calls that read a few registers. -/
section S33
variable {n u : Nat} {I : Nat → Int32} {A : Nat → Nat → Int32} {J : Int64} {B : Nat → Int64} {mk sn L : Nat} {xs : Nat → Int32} {X : Nat → mC} {D : Nat → Nat} 
theorem lt3 {w : Int32} (h : w < nI 3) : w ≤ nI 2 := by
  rw [Int32.le_iff_toInt_le, nI_toInt (by decide)]
  have := Int32.lt_iff_toInt_lt.mp h
  rw [nI_toInt (by decide)] at this
  omega
theorem w012 {w : Int32} (h0 : ¬ w < 0) (h : w ≤ nI 2) : w = nI 0 ∨ w = nI 1 ∨ w = nI 2 := by
  rcases pk_ix w (n := 3) (by decide) with c | c | ⟨j, c, e⟩
  · exact absurd c h0
  · have h1 := Int32.le_iff_toInt_le.mp h
    have h2 := Int32.le_iff_toInt_le.mp c
    rw [nI_toInt (by decide)] at h1 h2
    omega
  · subst e
    match j, c with
    | 0, _ => exact Or.inl rfl
    | 1, _ => exact Or.inr (Or.inl rfl)
    | 2, _ => exact Or.inr (Or.inr rfl)
theorem gt_of {x : Int32} {m : Nat} (hm : m + 1 < 2 ^ 31) (h : nI m < x) : nI (m + 1) ≤ x := by
  rw [Int32.le_iff_toInt_le, nI_toInt hm]
  have := Int32.lt_iff_toInt_lt.mp h
  rw [nI_toInt (by omega)] at this
  omega
theorem ngt_of {x : Int32} {m : Nat} (hm : m + 1 < 2 ^ 31) (h : ¬ nI m < x) : ¬ nI (m + 1) ≤ x := fun q => h (by
  rw [Int32.lt_iff_toInt_lt, nI_toInt (by omega)]
  have := Int32.le_iff_toInt_le.mp q
  rw [nI_toInt hm] at this
  omega)
set_option maxRecDepth 100000 in
set_option maxHeartbeats 4000000 in
theorem k_158 {l p : Nat} {w : Int32} (hl : l < 4) (hp : p < 8) {Q : mO × mHp → Prop} (kk : Q (.inl (some (.int (kn (A 55 (3 * (8 * l + p))) (A 55 (3 * (8 * l + p) + 1)) (A 55 (3 * (8 * l + p) + 2)) w))), hS n u (va_up I 60 (nI 0)) A J B mk sn L xs X)) : mq 158 0 [some (.ref 67), some (.int (nI l)), some (.int (nI p)), some (.int w), none] [] (hS n u I A J B mk sn L xs X) Q := by
  refine x_al1 (pc := 0) rfl rfl ?_
  refine x_const (pc := 1) (pc' := 2) (.int (nI 0)) rfl rfl rfl rfl ?_
  refine p_67_0 (pc := 2) rfl rfl ?_
  refine x_il1 (pc := 5) rfl rfl ?_
  refine x_ifN_lt (pc := 6) (t := 33) rfl rfl (by omega) ?_
  refine x_il1 (pc := 9) rfl rfl ?_
  refine x_const (pc := 10) (pc' := 11) (.int (nI 3)) rfl rfl rfl rfl ?_
  refine x_cmpN_gt (pc := 11) (t := 33) rfl rfl (by omega) (by omega) (fun c11 => ?_) (fun c11 => ?_)
  · omega
  · refine x_il1 (pc := 14) rfl rfl ?_
    refine x_ifN_lt (pc := 15) (t := 33) rfl rfl (by omega) ?_
    refine x_il1 (pc := 18) rfl rfl ?_
    refine x_const (pc := 19) (pc' := 21) (.int (nI 7)) rfl rfl rfl rfl ?_
    refine x_cmpN_gt (pc := 21) (t := 33) rfl rfl (by omega) (by omega) (fun c21 => ?_) (fun c21 => ?_)
    · omega
    · refine x_il1 (pc := 24) rfl rfl ?_
      refine x_if_lt (pc := 25) (t := 33) rfl rfl rfl (fun c25 => ?_) (fun c25 => ?_)
      · refine x_const (pc := 33) (pc' := 34) (.int (-1)) rfl rfl rfl rfl ?_
        refine x_ret (pc := 34) rfl rfl ?_
        rw [show kn _ _ _ w = _ from kn_n (by first | exact Or.inl c25 | exact Or.inr (Int32.not_lt.mp fun q => c30 (lt3 q)))] at kk
        exact kk
      · refine x_il1 (pc := 28) rfl rfl ?_
        refine x_const (pc := 29) (pc' := 30) (.int (nI 2)) rfl rfl rfl rfl ?_
        refine x_cmp_le (pc := 30) (t := 35) rfl rfl rfl (fun c30 => ?_) (fun c30 => ?_)
        · refine x_const (pc := 35) (pc' := 36) (.int (nI 3)) rfl rfl rfl rfl ?_
          refine x_const (pc := 36) (pc' := 38) (.int (nI 8)) rfl rfl rfl rfl ?_
          refine x_il1 (pc := 38) rfl rfl ?_
          refine x_imulN (pc := 39) (c := 8 * l) rfl rfl ?_
          refine x_il1 (pc := 40) rfl rfl ?_
          refine x_iaddN (pc := 41) (c := (8 * l) + p) rfl rfl ?_
          refine x_imulN (pc := 42) (c := 3 * ((8 * l) + p)) rfl rfl ?_
          refine x_is2 (pc := 43) (ml' := [some (.ref 67), some (.int (nI l)), some (.int (nI p)), some (.int w), some (.int (nI (3 * ((8 * l) + p))))]) rfl rfl ?_
          refine x_al1 (pc := 45) rfl rfl ?_
          refine g_67_14 (pc := 46) rfl rfl ?_
          refine x_il2 (pc := 49) rfl rfl ?_
          refine x_const (pc := 51) (pc' := 52) (.int (nI 1)) rfl rfl rfl rfl ?_
          refine x_iaddN (pc := 52) (c := (3 * ((8 * l) + p)) + 1) rfl rfl ?_
          refine al_73 (pc := 53) (q := 3 * (8 * l + p) + 1) (v := (A 55) (3 * (8 * l + p) + 1)) rfl rfl (by omega) rfl ?_
          refine x_if_ne (pc := 54) (t := 61) rfl rfl rfl (fun c54 => ?_) (fun c54 => ?_)
          · have w3 : ∀ m, w = nI m → m < 3 → mq 158 61 [some (.ref 67), some (.int (nI l)), some (.int (nI p)), some (.int w), some (.int (nI (3 * ((8 * l) + p))))] [] (hS n u (va_up I 60 (nI 0)) A J B mk sn L xs X) Q := by
              intro m hw hm
              rw [hw]
              refine x_al1 (pc := 61) rfl rfl ?_
              refine g_67_14 (pc := 62) rfl rfl ?_
              refine x_il2 (pc := 65) rfl rfl ?_
              refine x_il1 (pc := 67) rfl rfl ?_
              refine x_iaddN (pc := 68) (c := (3 * ((8 * l) + p)) + m) rfl rfl ?_
              refine al_73 (pc := 69) (q := 3 * (8 * l + p) + m) (v := (A 55) (3 * (8 * l + p) + m)) rfl rfl (by omega) rfl ?_
              refine x_ret (pc := 70) rfl rfl ?_
              have e : kn (A 55 (3 * (8 * l + p))) (A 55 (3 * (8 * l + p) + 1)) (A 55 (3 * (8 * l + p) + 2)) w = A 55 (3 * (8 * l + p) + m) := by
                match m, hm, hw with
                | 0, _, hw => exact kn_s c54 hw
                | 1, _, hw => exact kn_c c54 hw
                | 2, _, hw => exact kn_o c54 hw
              rw [e] at kk
              exact kk
            rcases w012 c25 c30 with e | e | e
            · exact w3 0 e (by decide)
            · exact w3 1 e (by decide)
            · exact w3 2 e (by decide)
          · refine x_const (pc := 57) (pc' := 58) (.int (-1)) rfl rfl rfl rfl ?_
            refine x_step (pc := 58) (pc' := 70) rfl rfl rfl rfl ?_
            refine x_ret (pc := 70) rfl rfl ?_
            rw [show kn _ _ _ w = _ from kn_0 _ _ _ c54] at kk
            exact kk
        · refine x_const (pc := 33) (pc' := 34) (.int (-1)) rfl rfl rfl rfl ?_
          refine x_ret (pc := 34) rfl rfl ?_
          rw [show kn _ _ _ w = _ from kn_n (by first | exact Or.inl c25 | exact Or.inr (Int32.not_lt.mp fun q => c30 (lt3 q)))] at kk
          exact kk
set_option maxRecDepth 100000 in
set_option maxHeartbeats 4000000 in
theorem k_158b {l p w : Int32} (hx : (l < 0 ∨ nI 4 ≤ l) ∨ (p < 0 ∨ nI 8 ≤ p)) {Q : mO × mHp → Prop} (kk : Q (.inl (some (.int (-1))), hS n u (va_up I 60 (nI 0)) A J B mk sn L xs X)) : mq 158 0 [some (.ref 67), some (.int l), some (.int p), some (.int w), none] [] (hS n u I A J B mk sn L xs X) Q := by
  refine x_al1 (pc := 0) rfl rfl ?_
  refine x_const (pc := 1) (pc' := 2) (.int (nI 0)) rfl rfl rfl rfl ?_
  refine p_67_0 (pc := 2) rfl rfl ?_
  refine x_il1 (pc := 5) rfl rfl ?_
  refine x_if_lt (pc := 6) (t := 33) rfl rfl rfl (fun c6 => ?_) (fun c6 => ?_)
  · refine x_const (pc := 33) (pc' := 34) (.int (-1)) rfl rfl rfl rfl ?_
    refine x_ret (pc := 34) rfl rfl ?_
    exact kk
  · refine x_il1 (pc := 9) rfl rfl ?_
    refine x_const (pc := 10) (pc' := 11) (.int (nI 3)) rfl rfl rfl rfl ?_
    refine x_cmp_gt (pc := 11) (t := 33) rfl rfl rfl (fun c11 => ?_) (fun c11 => ?_)
    · refine x_const (pc := 33) (pc' := 34) (.int (-1)) rfl rfl rfl rfl ?_
      refine x_ret (pc := 34) rfl rfl ?_
      exact kk
    · refine x_il1 (pc := 14) rfl rfl ?_
      refine x_if_lt (pc := 15) (t := 33) rfl rfl rfl (fun c15 => ?_) (fun c15 => ?_)
      · refine x_const (pc := 33) (pc' := 34) (.int (-1)) rfl rfl rfl rfl ?_
        refine x_ret (pc := 34) rfl rfl ?_
        exact kk
      · refine x_il1 (pc := 18) rfl rfl ?_
        refine x_const (pc := 19) (pc' := 21) (.int (nI 7)) rfl rfl rfl rfl ?_
        refine x_cmp_gt (pc := 21) (t := 33) rfl rfl rfl (fun c21 => ?_) (fun c21 => ?_)
        · refine x_const (pc := 33) (pc' := 34) (.int (-1)) rfl rfl rfl rfl ?_
          refine x_ret (pc := 34) rfl rfl ?_
          exact kk
        · exact absurd hx (fun q => q.elim (fun q => q.elim c6 (ngt_of (by decide) c11)) (fun q => q.elim c15 (ngt_of (by decide) c21)))
set_option maxRecDepth 100000 in
set_option maxHeartbeats 4000000 in
theorem k_54 (h : DK (A 0) D) {b k : Nat} (hb : b < 64) (hk : k < 32) {Q : mO × mHp → Prop} (kk : Q (.inl (some (.int (nI (D (b * 32 + k))))), hS n u I A J B mk sn L xs X)) : mq 54 0 [some (.ref 1), some (.int (nI b)), some (.int (nI k))] [] (hS n u I A J B mk sn L xs X) Q := by
  refine x_il1 (pc := 0) rfl rfl ?_
  refine x_ifN_lt (pc := 1) (t := 20) rfl rfl (by omega) ?_
  refine x_il1 (pc := 4) rfl rfl ?_
  refine x_const (pc := 5) (pc' := 7) (.int (nI 64)) rfl rfl rfl rfl ?_
  refine x_cmpN_ge (pc := 7) (t := 20) rfl rfl (by omega) (by omega) (fun c7 => ?_) (fun c7 => ?_)
  · omega
  · refine x_il1 (pc := 10) rfl rfl ?_
    refine x_ifN_lt (pc := 11) (t := 20) rfl rfl (by omega) ?_
    refine x_il1 (pc := 14) rfl rfl ?_
    refine x_const (pc := 15) (pc' := 17) (.int (nI 32)) rfl rfl rfl rfl ?_
    refine x_cmpN_lt (pc := 17) (t := 22) rfl rfl (by omega) (by omega) (fun c17 => ?_) (fun c17 => ?_)
    · refine x_al1 (pc := 22) rfl rfl ?_
      refine g_1_0 (pc := 23) rfl rfl ?_
      refine x_il1 (pc := 26) rfl rfl ?_
      refine x_const (pc := 27) (pc' := 29) (.int (nI 32)) rfl rfl rfl rfl ?_
      refine x_imulN (pc := 29) (c := b * 32) rfl rfl ?_
      refine x_il1 (pc := 30) rfl rfl ?_
      refine x_iaddN (pc := 31) (c := (b * 32) + k) rfl rfl ?_
      refine x_k (pc := 32) rfl rfl rfl ⟨Nat.le_of_ble_eq_true rfl, Nat.le_of_ble_eq_true rfl, Nat.le_of_ble_eq_true rfl⟩ rfl (mq_k (c_21D h (by omega)) ?_)
      show mq 54 35 [some (.ref 1), some (.int (nI b)), some (.int (nI k))] [.int (nI (D (b * 32 + k)))] (hS n u I A J B mk sn L xs X) _
      refine x_ret (pc := 35) rfl rfl ?_
      exact kk
    · omega
set_option maxRecDepth 100000 in
set_option maxHeartbeats 4000000 in
theorem k_54b {b k : Int32} (hx : (b < 0 ∨ nI 64 ≤ b) ∨ (k < 0 ∨ nI 32 ≤ k)) {Q : mO × mHp → Prop} (kk : Q (.inl (some (.int (-1))), hS n u I A J B mk sn L xs X)) : mq 54 0 [some (.ref 1), some (.int b), some (.int k)] [] (hS n u I A J B mk sn L xs X) Q := by
  refine x_il1 (pc := 0) rfl rfl ?_
  refine x_if_lt (pc := 1) (t := 20) rfl rfl rfl (fun c1 => ?_) (fun c1 => ?_)
  · refine x_const (pc := 20) (pc' := 21) (.int (-1)) rfl rfl rfl rfl ?_
    refine x_ret (pc := 21) rfl rfl ?_
    exact kk
  · refine x_il1 (pc := 4) rfl rfl ?_
    refine x_const (pc := 5) (pc' := 7) (.int (nI 64)) rfl rfl rfl rfl ?_
    refine x_cmp_ge (pc := 7) (t := 20) rfl rfl rfl (fun c7 => ?_) (fun c7 => ?_)
    · refine x_const (pc := 20) (pc' := 21) (.int (-1)) rfl rfl rfl rfl ?_
      refine x_ret (pc := 21) rfl rfl ?_
      exact kk
    · refine x_il1 (pc := 10) rfl rfl ?_
      refine x_if_lt (pc := 11) (t := 20) rfl rfl rfl (fun c11 => ?_) (fun c11 => ?_)
      · refine x_const (pc := 20) (pc' := 21) (.int (-1)) rfl rfl rfl rfl ?_
        refine x_ret (pc := 21) rfl rfl ?_
        exact kk
      · refine x_il1 (pc := 14) rfl rfl ?_
        refine x_const (pc := 15) (pc' := 17) (.int (nI 32)) rfl rfl rfl rfl ?_
        refine x_cmp_lt (pc := 17) (t := 22) rfl rfl rfl (fun c17 => ?_) (fun c17 => ?_)
        · exact absurd hx (fun q => q.elim (fun q => q.elim c1 c7) (fun q => q.elim c11 (fun q => absurd c17 (Int32.not_lt.mpr q))))
        · refine x_const (pc := 20) (pc' := 21) (.int (-1)) rfl rfl rfl rfl ?_
          refine x_ret (pc := 21) rfl rfl ?_
          exact kk
set_option maxRecDepth 100000 in
set_option maxHeartbeats 4000000 in
theorem k_159 (h : DK (A 50) D) {b k : Nat} (hb : b < 64) (hk : k < 32) {Q : mO × mHp → Prop} (kk : Q (.inl (some (.int (nI (D (b * 32 + k))))), hS n u (va_up I 60 (nI 0)) A J B mk sn L xs X)) : mq 159 0 [some (.ref 67), some (.int (nI b)), some (.int (nI k))] [] (hS n u I A J B mk sn L xs X) Q := by
  refine x_al1 (pc := 0) rfl rfl ?_
  refine x_const (pc := 1) (pc' := 2) (.int (nI 0)) rfl rfl rfl rfl ?_
  refine p_67_0 (pc := 2) rfl rfl ?_
  refine x_il1 (pc := 5) rfl rfl ?_
  refine x_ifN_lt (pc := 6) (t := 25) rfl rfl (by omega) ?_
  refine x_il1 (pc := 9) rfl rfl ?_
  refine x_const (pc := 10) (pc' := 12) (.int (nI 63)) rfl rfl rfl rfl ?_
  refine x_cmpN_gt (pc := 12) (t := 25) rfl rfl (by omega) (by omega) (fun c12 => ?_) (fun c12 => ?_)
  · refine x_const (pc := 25) (pc' := 26) (.int (-1)) rfl rfl rfl rfl ?_
    refine x_step (pc := 26) (pc' := 40) rfl rfl rfl rfl ?_
    refine x_ret (pc := 40) rfl rfl ?_
    omega
  · refine x_il1 (pc := 15) rfl rfl ?_
    refine x_ifN_lt (pc := 16) (t := 25) rfl rfl (by omega) ?_
    refine x_il1 (pc := 19) rfl rfl ?_
    refine x_const (pc := 20) (pc' := 22) (.int (nI 31)) rfl rfl rfl rfl ?_
    refine x_cmpN_le (pc := 22) (t := 29) rfl rfl (by omega) (by omega) (fun c22 => ?_) (fun c22 => ?_)
    · refine x_al1 (pc := 29) rfl rfl ?_
      refine g_67_1 (pc := 30) rfl rfl ?_
      refine x_const (pc := 33) (pc' := 35) (.int (nI 32)) rfl rfl rfl rfl ?_
      refine x_il1 (pc := 35) rfl rfl ?_
      refine x_imulN (pc := 36) (c := 32 * b) rfl rfl ?_
      refine x_il1 (pc := 37) rfl rfl ?_
      refine x_iaddN (pc := 38) (c := (32 * b) + k) rfl rfl ?_
      refine al_68 (pc := 39) (q := b * 32 + k) (v := nI (D (b * 32 + k))) rfl (congrArg nI (by omega)) (by omega) (congrFun h.1 _) ?_
      refine x_ret (pc := 40) rfl rfl ?_
      exact kk
    · refine x_const (pc := 25) (pc' := 26) (.int (-1)) rfl rfl rfl rfl ?_
      refine x_step (pc := 26) (pc' := 40) rfl rfl rfl rfl ?_
      refine x_ret (pc := 40) rfl rfl ?_
      omega
set_option maxRecDepth 100000 in
set_option maxHeartbeats 4000000 in
theorem k_159b {b k : Int32} (hx : (b < 0 ∨ nI 64 ≤ b) ∨ (k < 0 ∨ nI 32 ≤ k)) {Q : mO × mHp → Prop} (kk : Q (.inl (some (.int (-1))), hS n u (va_up I 60 (nI 0)) A J B mk sn L xs X)) : mq 159 0 [some (.ref 67), some (.int b), some (.int k)] [] (hS n u I A J B mk sn L xs X) Q := by
  refine x_al1 (pc := 0) rfl rfl ?_
  refine x_const (pc := 1) (pc' := 2) (.int (nI 0)) rfl rfl rfl rfl ?_
  refine p_67_0 (pc := 2) rfl rfl ?_
  refine x_il1 (pc := 5) rfl rfl ?_
  refine x_if_lt (pc := 6) (t := 25) rfl rfl rfl (fun c6 => ?_) (fun c6 => ?_)
  · refine x_const (pc := 25) (pc' := 26) (.int (-1)) rfl rfl rfl rfl ?_
    refine x_step (pc := 26) (pc' := 40) rfl rfl rfl rfl ?_
    refine x_ret (pc := 40) rfl rfl ?_
    exact kk
  · refine x_il1 (pc := 9) rfl rfl ?_
    refine x_const (pc := 10) (pc' := 12) (.int (nI 63)) rfl rfl rfl rfl ?_
    refine x_cmp_gt (pc := 12) (t := 25) rfl rfl rfl (fun c12 => ?_) (fun c12 => ?_)
    · refine x_const (pc := 25) (pc' := 26) (.int (-1)) rfl rfl rfl rfl ?_
      refine x_step (pc := 26) (pc' := 40) rfl rfl rfl rfl ?_
      refine x_ret (pc := 40) rfl rfl ?_
      exact kk
    · refine x_il1 (pc := 15) rfl rfl ?_
      refine x_if_lt (pc := 16) (t := 25) rfl rfl rfl (fun c16 => ?_) (fun c16 => ?_)
      · refine x_const (pc := 25) (pc' := 26) (.int (-1)) rfl rfl rfl rfl ?_
        refine x_step (pc := 26) (pc' := 40) rfl rfl rfl rfl ?_
        refine x_ret (pc := 40) rfl rfl ?_
        exact kk
      · refine x_il1 (pc := 19) rfl rfl ?_
        refine x_const (pc := 20) (pc' := 22) (.int (nI 31)) rfl rfl rfl rfl ?_
        refine x_cmp_le (pc := 22) (t := 29) rfl rfl rfl (fun c22 => ?_) (fun c22 => ?_)
        · exact absurd hx (fun q => q.elim (fun q => q.elim (by assumption) (ngt_of (by decide) (by assumption))) (fun q => q.elim (by assumption) (fun q => absurd (ngt_of (m := 31) (by decide) (Int32.not_lt.mpr c22)) (fun z => z q))))
        · refine x_const (pc := 25) (pc' := 26) (.int (-1)) rfl rfl rfl rfl ?_
          refine x_step (pc := 26) (pc' := 40) rfl rfl rfl rfl ?_
          refine x_ret (pc := 40) rfl rfl ?_
          exact kk
theorem bad6 {w : Int32} {N j : Nat} (hx : w < 0 ∨ nI N ≤ w) (e : w = nI j) (hj : j < N) (hN : N < 2 ^ 31) : False := by
  subst e
  rcases hx with q | q
  · exact nI_pos (by omega) q
  · exact nI_ge hj hN q
def lkv (a b c d e f w : Int32) : Int32 := if w = nI 0 then a else if w = nI 1 then b else if w = nI 2 then c else if w = nI 3 then d else if w = nI 4 then e else if w = nI 5 then f else -1
theorem lkv_b {a b c d e f w : Int32} (hx : w < 0 ∨ nI 6 ≤ w) : lkv a b c d e f w = -1 := by
  unfold lkv
  rw [if_neg (fun q => bad6 hx q (by decide) (by decide)), if_neg (fun q => bad6 hx q (by decide) (by decide)), if_neg (fun q => bad6 hx q (by decide) (by decide)), if_neg (fun q => bad6 hx q (by decide) (by decide)), if_neg (fun q => bad6 hx q (by decide) (by decide)), if_neg (fun q => bad6 hx q (by decide) (by decide))]
set_option maxRecDepth 100000 in
set_option maxHeartbeats 4000000 in
theorem k_55_53 (h : DK (A 0) D) {on : Nat} (h0 : I 0 = nI on) (hon : on ≤ 1) {w : Int32} {Q : mO × mHp → Prop} (kk : Q (.inl (some (.int (lkv (nI on) (I 3) (nI (fcS D 16 0)) (I 28) (I 11) (I 16) w))), hS n u I A J B 53 60 L xs X)) : mq 55 0 [some (.ref 1), some (.int w)] [] (hS n u I A J B 53 60 L xs X) Q := by
  refine x_il1 (pc := 0) rfl rfl ?_
  rcases pk_ix w (n := 6) (by decide) with c1 | c1 | ⟨j1, c1, e1⟩
  · refine x_tabd (pc := 1) (t := 96) rfl rfl (Or.inl (tab_lt c1)) ?_
    refine x_const (pc := 96) (pc' := 97) (.int (-1)) rfl rfl rfl rfl ?_
    refine x_ret (pc := 97) rfl rfl ?_
    rw [lkv_b (by first | exact Or.inl c1 | exact Or.inr c1)] at kk
    exact kk
  · refine x_tabd (pc := 1) (t := 96) rfl rfl (Or.inr (tab_ge (n := 5) (by decide) c1)) ?_
    refine x_const (pc := 96) (pc' := 97) (.int (-1)) rfl rfl rfl rfl ?_
    refine x_ret (pc := 97) rfl rfl ?_
    rw [lkv_b (by first | exact Or.inl c1 | exact Or.inr c1)] at kk
    exact kk
  · match j1, c1, e1 with
    | 0, _, e1 =>
      refine x_tabi (pc := 1) (i := 0) (t := 40) rfl rfl e1 ?_
      refine x_al1 (pc := 40) rfl rfl ?_
      refine g_1_0 (pc := 41) rfl rfl ?_
      refine g_2_1 (pc := 44) (v := nI on) rfl rfl h0 ?_
      refine x_ifN_eq (pc := 47) (t := 54) rfl rfl (by omega) (fun c47 => ?_) (fun c47 => ?_)
      · refine x_const (pc := 54) (pc' := 55) (.int (nI 0)) rfl rfl rfl rfl ?_
        refine x_ret (pc := 55) rfl rfl ?_
        subst e1
        subst c47
        exact kk
      · refine x_const (pc := 50) (pc' := 51) (.int (nI 1)) rfl rfl rfl rfl ?_
        refine x_step (pc := 51) (pc' := 55) rfl rfl rfl rfl ?_
        refine x_ret (pc := 55) rfl rfl ?_
        subst e1
        have : on = 1 := by omega
        subst this
        exact kk
    | 1, _, e1 =>
      refine x_tabi (pc := 1) (i := 1) (t := 56) rfl rfl e1 ?_
      refine x_al1 (pc := 56) rfl rfl ?_
      refine g_1_0 (pc := 57) rfl rfl ?_
      refine g_2_4 (pc := 60) (v := I 3) rfl rfl rfl ?_
      refine x_ret (pc := 63) rfl rfl ?_
      subst e1
      exact kk
    | 2, _, e1 =>
      refine x_tabi (pc := 1) (i := 2) (t := 64) rfl rfl e1 ?_
      refine x_al1 (pc := 64) rfl rfl ?_
      refine g_1_0 (pc := 65) rfl rfl ?_
      refine x_k (pc := 68) rfl rfl rfl ⟨Nat.le_of_ble_eq_true rfl, Nat.le_of_ble_eq_true rfl, Nat.le_of_ble_eq_true rfl⟩ rfl (mq_k (c_56 h) ?_)
      show mq 55 71 [some (.ref 1), some (.int w)] [.int (nI (fcS D 16 0))] (hS n u I A J B 53 60 L xs X) _
      refine x_ret (pc := 71) rfl rfl ?_
      subst e1
      exact kk
    | 3, _, e1 =>
      refine x_tabi (pc := 1) (i := 3) (t := 72) rfl rfl e1 ?_
      refine x_al1 (pc := 72) rfl rfl ?_
      refine g_1_9 (pc := 73) rfl rfl ?_
      refine g_53_0 (pc := 76) rfl rfl ?_
      refine g_54_5 (pc := 79) (v := I 28) rfl rfl rfl ?_
      refine x_ret (pc := 82) rfl rfl ?_
      subst e1
      exact kk
    | 4, _, e1 =>
      refine x_tabi (pc := 1) (i := 4) (t := 83) rfl rfl e1 ?_
      refine x_al1 (pc := 83) rfl rfl ?_
      refine g_1_11 (pc := 84) (v := I 11) rfl rfl rfl ?_
      refine x_ret (pc := 87) rfl rfl ?_
      subst e1
      exact kk
    | 5, _, e1 =>
      refine x_tabi (pc := 1) (i := 5) (t := 88) rfl rfl e1 ?_
      refine x_al1 (pc := 88) rfl rfl ?_
      refine g_1_4 (pc := 89) rfl rfl ?_
      refine g_34_5 (pc := 92) (v := I 16) rfl rfl rfl ?_
      refine x_ret (pc := 95) rfl rfl ?_
      subst e1
      exact kk
set_option maxRecDepth 100000 in
set_option maxHeartbeats 4000000 in
theorem k_55_60 (h : DK (A 0) D) {on : Nat} (h0 : I 0 = nI on) (hon : on ≤ 1) {w : Int32} {Q : mO × mHp → Prop} (kk : Q (.inl (some (.int (lkv (nI on) (I 3) (nI (fcS D 16 0)) (I 31) (I 11) (I 16) w))), hS n u I A J B 60 53 L xs X)) : mq 55 0 [some (.ref 1), some (.int w)] [] (hS n u I A J B 60 53 L xs X) Q := by
  refine x_il1 (pc := 0) rfl rfl ?_
  rcases pk_ix w (n := 6) (by decide) with c1 | c1 | ⟨j1, c1, e1⟩
  · refine x_tabd (pc := 1) (t := 96) rfl rfl (Or.inl (tab_lt c1)) ?_
    refine x_const (pc := 96) (pc' := 97) (.int (-1)) rfl rfl rfl rfl ?_
    refine x_ret (pc := 97) rfl rfl ?_
    rw [lkv_b (by first | exact Or.inl c1 | exact Or.inr c1)] at kk
    exact kk
  · refine x_tabd (pc := 1) (t := 96) rfl rfl (Or.inr (tab_ge (n := 5) (by decide) c1)) ?_
    refine x_const (pc := 96) (pc' := 97) (.int (-1)) rfl rfl rfl rfl ?_
    refine x_ret (pc := 97) rfl rfl ?_
    rw [lkv_b (by first | exact Or.inl c1 | exact Or.inr c1)] at kk
    exact kk
  · match j1, c1, e1 with
    | 0, _, e1 =>
      refine x_tabi (pc := 1) (i := 0) (t := 40) rfl rfl e1 ?_
      refine x_al1 (pc := 40) rfl rfl ?_
      refine g_1_0 (pc := 41) rfl rfl ?_
      refine g_2_1 (pc := 44) (v := nI on) rfl rfl h0 ?_
      refine x_ifN_eq (pc := 47) (t := 54) rfl rfl (by omega) (fun c47 => ?_) (fun c47 => ?_)
      · refine x_const (pc := 54) (pc' := 55) (.int (nI 0)) rfl rfl rfl rfl ?_
        refine x_ret (pc := 55) rfl rfl ?_
        subst e1
        subst c47
        exact kk
      · refine x_const (pc := 50) (pc' := 51) (.int (nI 1)) rfl rfl rfl rfl ?_
        refine x_step (pc := 51) (pc' := 55) rfl rfl rfl rfl ?_
        refine x_ret (pc := 55) rfl rfl ?_
        subst e1
        have : on = 1 := by omega
        subst this
        exact kk
    | 1, _, e1 =>
      refine x_tabi (pc := 1) (i := 1) (t := 56) rfl rfl e1 ?_
      refine x_al1 (pc := 56) rfl rfl ?_
      refine g_1_0 (pc := 57) rfl rfl ?_
      refine g_2_4 (pc := 60) (v := I 3) rfl rfl rfl ?_
      refine x_ret (pc := 63) rfl rfl ?_
      subst e1
      exact kk
    | 2, _, e1 =>
      refine x_tabi (pc := 1) (i := 2) (t := 64) rfl rfl e1 ?_
      refine x_al1 (pc := 64) rfl rfl ?_
      refine g_1_0 (pc := 65) rfl rfl ?_
      refine x_k (pc := 68) rfl rfl rfl ⟨Nat.le_of_ble_eq_true rfl, Nat.le_of_ble_eq_true rfl, Nat.le_of_ble_eq_true rfl⟩ rfl (mq_k (c_56 h) ?_)
      show mq 55 71 [some (.ref 1), some (.int w)] [.int (nI (fcS D 16 0))] (hS n u I A J B 60 53 L xs X) _
      refine x_ret (pc := 71) rfl rfl ?_
      subst e1
      exact kk
    | 3, _, e1 =>
      refine x_tabi (pc := 1) (i := 3) (t := 72) rfl rfl e1 ?_
      refine x_al1 (pc := 72) rfl rfl ?_
      refine g_1_9 (pc := 73) rfl rfl ?_
      refine g_60_0 (pc := 76) rfl rfl ?_
      refine g_61_5 (pc := 79) (v := I 31) rfl rfl rfl ?_
      refine x_ret (pc := 82) rfl rfl ?_
      subst e1
      exact kk
    | 4, _, e1 =>
      refine x_tabi (pc := 1) (i := 4) (t := 83) rfl rfl e1 ?_
      refine x_al1 (pc := 83) rfl rfl ?_
      refine g_1_11 (pc := 84) (v := I 11) rfl rfl rfl ?_
      refine x_ret (pc := 87) rfl rfl ?_
      subst e1
      exact kk
    | 5, _, e1 =>
      refine x_tabi (pc := 1) (i := 5) (t := 88) rfl rfl e1 ?_
      refine x_al1 (pc := 88) rfl rfl ?_
      refine g_1_4 (pc := 89) rfl rfl ?_
      refine g_34_5 (pc := 92) (v := I 16) rfl rfl rfl ?_
      refine x_ret (pc := 95) rfl rfl ?_
      subst e1
      exact kk
def fz (D : Nat → Nat) (s : Nat) : Bool := decide (oB D s = 0)
theorem fcS_eq (D : Nat → Nat) : ∀ m i, cS (fz D) i + fcS D m i = cS (fz D) (i + m)
  | 0, i => by simp [fcS]
  | m + 1, i => by
    have h := fcS_eq D m (i + 1)
    rw [show i + (m + 1) = i + 1 + m by omega, ← h]
    show _ + ((if oB D i = 0 then 1 else 0) + fcS D m (i + 1)) = cS (fz D) i + (if fz D i = true then 1 else 0) + _
    simp only [fz, decide_eq_true_eq]
    omega
theorem fcS_16 (D : Nat → Nat) : cS (fz D) 16 = fcS D 16 0 := by
  have := fcS_eq D 16 0
  simpa [cS] using this.symm
set_option maxRecDepth 100000 in
set_option maxHeartbeats 4000000 in
theorem l_160 (h : DK (A 50) D) {w : Int32} {Q : mO × mHp → Prop} : ∀ (z j : Nat) , (j + z = 16) → (mq 160 37 [some (.ref 67), some (.int w), some (.int (nI (fcS D 16 0))), some (.int (nI 16))] [] (hS n u I A J B mk sn L xs X) Q) → mq 160 9 [some (.ref 67), some (.int w), some (.int (nI (cS (fz D) j))), some (.int (nI j))] [] (hS n u I A J B mk sn L xs X) Q := by
  intro z
  induction z with
  | zero =>
    intro j  hz kk
    refine x_il1 (pc := 9) rfl rfl ?_
    refine x_const (pc := 10) (pc' := 12) (.int (nI 16)) rfl rfl rfl rfl ?_
    refine x_cmpN_ge (pc := 12) (t := 37) rfl rfl (by omega) (by decide) (fun c12 => ?_) (fun c12 => ?_)
    · have hj : j = 16 := by omega
      subst hj
      rw [← fcS_16] at kk
      exact kk
    · omega
  | succ z ih =>
    intro j  hz kk
    refine x_il1 (pc := 9) rfl rfl ?_
    refine x_const (pc := 10) (pc' := 12) (.int (nI 16)) rfl rfl rfl rfl ?_
    refine x_cmpN_ge (pc := 12) (t := 37) rfl rfl (by omega) (by decide) (fun c12 => ?_) (fun c12 => ?_)
    · omega
    · refine x_il1 (pc := 15) rfl rfl ?_
      refine x_al1 (pc := 16) rfl rfl ?_
      refine x_il1 (pc := 17) rfl rfl ?_
      refine x_k (pc := 18) rfl rfl rfl ⟨Nat.le_of_ble_eq_true rfl, Nat.le_of_ble_eq_true rfl, Nat.le_of_ble_eq_true rfl⟩ rfl (mq_k (c_118 h (by omega)) ?_)
      show mq 160 21 [some (.ref 67), some (.int w), some (.int (nI (cS (fz D) j))), some (.int (nI j))] [.int (nI (oB D j)), .int (nI (cS (fz D) j))] (hS n u I A J B mk sn L xs X) _
      refine x_ifN_ne (pc := 21) (t := 28) rfl rfl (Nat.lt_trans (h.2.1 _) (by decide)) (fun c21 => ?_) (fun c21 => ?_)
      · refine x_const (pc := 28) (pc' := 29) (.int (nI 0)) rfl rfl rfl rfl ?_
        refine x_iaddN (pc := 29) (c := (cS (fz D) j) + 0) rfl rfl ?_
        refine x_top (y := nI (cS (fz D) (j + 1))) (congrArg nI (show _ = cS (fz D) j + _ from by unfold fz; rw [if_neg (by simpa using c21)])) ?_
        refine x_is1 (pc := 30) (ml' := [some (.ref 67), some (.int w), some (.int (nI (cS (fz D) (j + 1)))), some (.int (nI j))]) rfl rfl ?_
        refine x_iincN (pc := 31) (c := 1) (ml' := [some (.ref 67), some (.int w), some (.int (nI (cS (fz D) (j + 1)))), some (.int (nI (j + 1)))]) rfl rfl rfl rfl ?_
        refine x_step (pc := 34) (pc' := 9) rfl rfl rfl rfl ?_
        exact ih (j + 1) (by omega) kk
      · refine x_const (pc := 24) (pc' := 25) (.int (nI 1)) rfl rfl rfl rfl ?_
        refine x_step (pc := 25) (pc' := 29) rfl rfl rfl rfl ?_
        refine x_iaddN (pc := 29) (c := (cS (fz D) j) + 1) rfl rfl ?_
        refine x_top (y := nI (cS (fz D) (j + 1))) (congrArg nI (show _ = cS (fz D) j + _ from by unfold fz; rw [if_pos (by simpa using c21)])) ?_
        refine x_is1 (pc := 30) (ml' := [some (.ref 67), some (.int w), some (.int (nI (cS (fz D) (j + 1)))), some (.int (nI j))]) rfl rfl ?_
        refine x_iincN (pc := 31) (c := 1) (ml' := [some (.ref 67), some (.int w), some (.int (nI (cS (fz D) (j + 1)))), some (.int (nI (j + 1)))]) rfl rfl rfl rfl ?_
        refine x_step (pc := 34) (pc' := 9) rfl rfl rfl rfl ?_
        exact ih (j + 1) (by omega) kk
set_option maxRecDepth 100000 in
set_option maxHeartbeats 4000000 in
theorem k_160 (h : DK (A 50) D) {on : Nat} (h61 : I 61 = nI (1 - on)) (hon : on ≤ 1) {w : Int32} {Q : mO × mHp → Prop} (kk : Q (.inl (some (.int (lkv (nI on) (I 62) (nI (fcS D 16 0)) (I 64) (I 70) (I 69) w))), hS n u (va_up I 60 (nI 0)) A J B mk sn L xs X)) : mq 160 0 [some (.ref 67), some (.int w), none, none] [] (hS n u I A J B mk sn L xs X) Q := by
  rcases pk_ix w (n := 6) (by decide) with c | c | ⟨j, c, e⟩
  · have hx : w < 0 ∨ nI 6 ≤ w := Or.inl c
    refine x_al1 (pc := 0) rfl rfl ?_
    refine x_const (pc := 1) (pc' := 2) (.int (nI 0)) rfl rfl rfl rfl ?_
    refine p_67_0 (pc := 2) rfl rfl ?_
    refine x_const (pc := 5) (pc' := 6) (.int (nI 0)) rfl rfl rfl rfl ?_
    refine x_is1 (pc := 6) (ml' := [some (.ref 67), some (.int w), some (.int (nI 0)), none]) rfl rfl ?_
    refine x_const (pc := 7) (pc' := 8) (.int (nI 0)) rfl rfl rfl rfl ?_
    refine x_is1 (pc := 8) (ml' := [some (.ref 67), some (.int w), some (.int (nI 0)), some (.int (nI 0))]) rfl rfl ?_
    refine l_160 (I := va_up I 60 (nI 0)) h 16 0 rfl ?_
    refine x_il1 (pc := 37) rfl rfl ?_
    refine x_const (pc := 38) (pc' := 39) (.int (nI 3)) rfl rfl rfl rfl ?_
    refine x_cmp_ge (pc := 39) (t := 84) rfl rfl rfl (fun c39 => ?_) (fun c39 => ?_)
    · refine x_il1 (pc := 84) rfl rfl ?_
      refine x_const (pc := 85) (pc' := 86) (.int (nI 3)) rfl rfl rfl rfl ?_
      refine x_cmp_ne (pc := 86) (t := 96) rfl rfl rfl (fun c86 => ?_) (fun c86 => ?_)
      · refine x_il1 (pc := 96) rfl rfl ?_
        refine x_const (pc := 97) (pc' := 98) (.int (nI 4)) rfl rfl rfl rfl ?_
        refine x_cmp_ne (pc := 98) (t := 108) rfl rfl rfl (fun c98 => ?_) (fun c98 => ?_)
        · refine x_il1 (pc := 108) rfl rfl ?_
          refine x_const (pc := 109) (pc' := 110) (.int (nI 5)) rfl rfl rfl rfl ?_
          refine x_cmp_ne (pc := 110) (t := 120) rfl rfl rfl (fun c110 => ?_) (fun c110 => ?_)
          · refine x_const (pc := 120) (pc' := 121) (.int (-1)) rfl rfl rfl rfl ?_
            refine x_ret (pc := 121) rfl rfl ?_
            rw [lkv_b hx] at kk
            exact kk
          · exact (bad6 hx c110 (by decide) (by decide)).elim
        · exact (bad6 hx c98 (by decide) (by decide)).elim
      · exact (bad6 hx c86 (by decide) (by decide)).elim
    · refine x_il1 (pc := 42) rfl rfl ?_
      refine x_if_ne (pc := 43) (t := 61) rfl rfl rfl (fun c43 => ?_) (fun c43 => ?_)
      · refine x_il1 (pc := 61) rfl rfl ?_
        refine x_const (pc := 62) (pc' := 63) (.int (nI 1)) rfl rfl rfl rfl ?_
        refine x_cmp_ne (pc := 63) (t := 73) rfl rfl rfl (fun c63 => ?_) (fun c63 => ?_)
        · refine x_il1 (pc := 73) rfl rfl ?_
          refine x_const (pc := 74) (pc' := 75) (.int (nI 2)) rfl rfl rfl rfl ?_
          refine x_cmp_ne (pc := 75) (t := 82) rfl rfl rfl (fun c75 => ?_) (fun c75 => ?_)
          · refine x_const (pc := 82) (pc' := 83) (.int (-1)) rfl rfl rfl rfl ?_
            refine x_ret (pc := 83) rfl rfl ?_
            rw [lkv_b hx] at kk
            exact kk
          · exact (bad6 hx c75 (by decide) (by decide)).elim
        · exact (bad6 hx c63 (by decide) (by decide)).elim
      · exact (bad6 (j := 0) hx c43 (by decide) (by decide)).elim
  · have hx : w < 0 ∨ nI 6 ≤ w := Or.inr c
    refine x_al1 (pc := 0) rfl rfl ?_
    refine x_const (pc := 1) (pc' := 2) (.int (nI 0)) rfl rfl rfl rfl ?_
    refine p_67_0 (pc := 2) rfl rfl ?_
    refine x_const (pc := 5) (pc' := 6) (.int (nI 0)) rfl rfl rfl rfl ?_
    refine x_is1 (pc := 6) (ml' := [some (.ref 67), some (.int w), some (.int (nI 0)), none]) rfl rfl ?_
    refine x_const (pc := 7) (pc' := 8) (.int (nI 0)) rfl rfl rfl rfl ?_
    refine x_is1 (pc := 8) (ml' := [some (.ref 67), some (.int w), some (.int (nI 0)), some (.int (nI 0))]) rfl rfl ?_
    refine l_160 (I := va_up I 60 (nI 0)) h 16 0 rfl ?_
    refine x_il1 (pc := 37) rfl rfl ?_
    refine x_const (pc := 38) (pc' := 39) (.int (nI 3)) rfl rfl rfl rfl ?_
    refine x_cmp_ge (pc := 39) (t := 84) rfl rfl rfl (fun c39 => ?_) (fun c39 => ?_)
    · refine x_il1 (pc := 84) rfl rfl ?_
      refine x_const (pc := 85) (pc' := 86) (.int (nI 3)) rfl rfl rfl rfl ?_
      refine x_cmp_ne (pc := 86) (t := 96) rfl rfl rfl (fun c86 => ?_) (fun c86 => ?_)
      · refine x_il1 (pc := 96) rfl rfl ?_
        refine x_const (pc := 97) (pc' := 98) (.int (nI 4)) rfl rfl rfl rfl ?_
        refine x_cmp_ne (pc := 98) (t := 108) rfl rfl rfl (fun c98 => ?_) (fun c98 => ?_)
        · refine x_il1 (pc := 108) rfl rfl ?_
          refine x_const (pc := 109) (pc' := 110) (.int (nI 5)) rfl rfl rfl rfl ?_
          refine x_cmp_ne (pc := 110) (t := 120) rfl rfl rfl (fun c110 => ?_) (fun c110 => ?_)
          · refine x_const (pc := 120) (pc' := 121) (.int (-1)) rfl rfl rfl rfl ?_
            refine x_ret (pc := 121) rfl rfl ?_
            rw [lkv_b hx] at kk
            exact kk
          · exact (bad6 hx c110 (by decide) (by decide)).elim
        · exact (bad6 hx c98 (by decide) (by decide)).elim
      · exact (bad6 hx c86 (by decide) (by decide)).elim
    · refine x_il1 (pc := 42) rfl rfl ?_
      refine x_if_ne (pc := 43) (t := 61) rfl rfl rfl (fun c43 => ?_) (fun c43 => ?_)
      · refine x_il1 (pc := 61) rfl rfl ?_
        refine x_const (pc := 62) (pc' := 63) (.int (nI 1)) rfl rfl rfl rfl ?_
        refine x_cmp_ne (pc := 63) (t := 73) rfl rfl rfl (fun c63 => ?_) (fun c63 => ?_)
        · refine x_il1 (pc := 73) rfl rfl ?_
          refine x_const (pc := 74) (pc' := 75) (.int (nI 2)) rfl rfl rfl rfl ?_
          refine x_cmp_ne (pc := 75) (t := 82) rfl rfl rfl (fun c75 => ?_) (fun c75 => ?_)
          · refine x_const (pc := 82) (pc' := 83) (.int (-1)) rfl rfl rfl rfl ?_
            refine x_ret (pc := 83) rfl rfl ?_
            rw [lkv_b hx] at kk
            exact kk
          · exact (bad6 hx c75 (by decide) (by decide)).elim
        · exact (bad6 hx c63 (by decide) (by decide)).elim
      · exact (bad6 (j := 0) hx c43 (by decide) (by decide)).elim
  · match j, c, e with
    | 0, _, e =>
      subst e
      refine x_al1 (pc := 0) rfl rfl ?_
      refine x_const (pc := 1) (pc' := 2) (.int (nI 0)) rfl rfl rfl rfl ?_
      refine p_67_0 (pc := 2) rfl rfl ?_
      refine x_const (pc := 5) (pc' := 6) (.int (nI 0)) rfl rfl rfl rfl ?_
      refine x_is1 (pc := 6) (ml' := [some (.ref 67), some (.int (nI 0)), some (.int (nI 0)), none]) rfl rfl ?_
      refine x_const (pc := 7) (pc' := 8) (.int (nI 0)) rfl rfl rfl rfl ?_
      refine x_is1 (pc := 8) (ml' := [some (.ref 67), some (.int (nI 0)), some (.int (nI 0)), some (.int (nI 0))]) rfl rfl ?_
      refine l_160 (I := va_up I 60 (nI 0)) h 16 0 rfl ?_
      refine x_il1 (pc := 37) rfl rfl ?_
      refine x_const (pc := 38) (pc' := 39) (.int (nI 3)) rfl rfl rfl rfl ?_
      refine x_cmpN_ge (pc := 39) (t := 84) rfl rfl (by decide) (by decide) (fun c => absurd c (by decide)) (fun _ => ?_)
      refine x_il1 (pc := 42) rfl rfl ?_
      refine x_ifN_ne (pc := 43) (t := 61) rfl rfl (by decide) (fun c => absurd c (by decide)) (fun _ => ?_)
      refine x_al1 (pc := 46) rfl rfl ?_
      refine g_67_2 (pc := 47) (v := nI (1 - on)) rfl rfl h61 ?_
      refine x_ifN_eq (pc := 50) (t := 57) rfl rfl (by omega) (fun c50 => ?_) (fun c50 => ?_)
      · refine x_const (pc := 57) (pc' := 58) (.int (nI 1)) rfl rfl rfl rfl ?_
        refine x_step (pc := 58) (pc' := 83) rfl rfl rfl rfl ?_
        refine x_ret (pc := 83) rfl rfl ?_
        have : on = 1 := by omega
        subst this
        exact kk
      · refine x_const (pc := 53) (pc' := 54) (.int (nI 0)) rfl rfl rfl rfl ?_
        refine x_step (pc := 54) (pc' := 83) rfl rfl rfl rfl ?_
        refine x_ret (pc := 83) rfl rfl ?_
        have : on = 0 := by omega
        subst this
        exact kk
    | 1, _, e =>
      subst e
      refine x_al1 (pc := 0) rfl rfl ?_
      refine x_const (pc := 1) (pc' := 2) (.int (nI 0)) rfl rfl rfl rfl ?_
      refine p_67_0 (pc := 2) rfl rfl ?_
      refine x_const (pc := 5) (pc' := 6) (.int (nI 0)) rfl rfl rfl rfl ?_
      refine x_is1 (pc := 6) (ml' := [some (.ref 67), some (.int (nI 1)), some (.int (nI 0)), none]) rfl rfl ?_
      refine x_const (pc := 7) (pc' := 8) (.int (nI 0)) rfl rfl rfl rfl ?_
      refine x_is1 (pc := 8) (ml' := [some (.ref 67), some (.int (nI 1)), some (.int (nI 0)), some (.int (nI 0))]) rfl rfl ?_
      refine l_160 (I := va_up I 60 (nI 0)) h 16 0 rfl ?_
      refine x_il1 (pc := 37) rfl rfl ?_
      refine x_const (pc := 38) (pc' := 39) (.int (nI 3)) rfl rfl rfl rfl ?_
      refine x_cmpN_ge (pc := 39) (t := 84) rfl rfl (by decide) (by decide) (fun c => absurd c (by decide)) (fun _ => ?_)
      refine x_il1 (pc := 42) rfl rfl ?_
      refine x_ifN_ne (pc := 43) (t := 61) rfl rfl (by decide) (fun _ => ?_) (fun c => absurd c (by decide))
      refine x_il1 (pc := 61) rfl rfl ?_
      refine x_const (pc := 62) (pc' := 63) (.int (nI 1)) rfl rfl rfl rfl ?_
      refine x_cmpN_ne (pc := 63) (t := 73) rfl rfl (by decide) (by decide) (fun c => absurd c (by decide)) (fun _ => ?_)
      refine x_al1 (pc := 66) rfl rfl ?_
      refine g_67_3 (pc := 67) (v := I 62) rfl rfl rfl ?_
      refine x_step (pc := 70) (pc' := 83) rfl rfl rfl rfl ?_
      refine x_ret (pc := 83) rfl rfl ?_
      exact kk
    | 2, _, e =>
      subst e
      refine x_al1 (pc := 0) rfl rfl ?_
      refine x_const (pc := 1) (pc' := 2) (.int (nI 0)) rfl rfl rfl rfl ?_
      refine p_67_0 (pc := 2) rfl rfl ?_
      refine x_const (pc := 5) (pc' := 6) (.int (nI 0)) rfl rfl rfl rfl ?_
      refine x_is1 (pc := 6) (ml' := [some (.ref 67), some (.int (nI 2)), some (.int (nI 0)), none]) rfl rfl ?_
      refine x_const (pc := 7) (pc' := 8) (.int (nI 0)) rfl rfl rfl rfl ?_
      refine x_is1 (pc := 8) (ml' := [some (.ref 67), some (.int (nI 2)), some (.int (nI 0)), some (.int (nI 0))]) rfl rfl ?_
      refine l_160 (I := va_up I 60 (nI 0)) h 16 0 rfl ?_
      refine x_il1 (pc := 37) rfl rfl ?_
      refine x_const (pc := 38) (pc' := 39) (.int (nI 3)) rfl rfl rfl rfl ?_
      refine x_cmpN_ge (pc := 39) (t := 84) rfl rfl (by decide) (by decide) (fun c => absurd c (by decide)) (fun _ => ?_)
      refine x_il1 (pc := 42) rfl rfl ?_
      refine x_ifN_ne (pc := 43) (t := 61) rfl rfl (by decide) (fun _ => ?_) (fun c => absurd c (by decide))
      refine x_il1 (pc := 61) rfl rfl ?_
      refine x_const (pc := 62) (pc' := 63) (.int (nI 1)) rfl rfl rfl rfl ?_
      refine x_cmpN_ne (pc := 63) (t := 73) rfl rfl (by decide) (by decide) (fun _ => ?_) (fun c => absurd c (by decide))
      refine x_il1 (pc := 73) rfl rfl ?_
      refine x_const (pc := 74) (pc' := 75) (.int (nI 2)) rfl rfl rfl rfl ?_
      refine x_cmpN_ne (pc := 75) (t := 82) rfl rfl (by decide) (by decide) (fun c => absurd c (by decide)) (fun _ => ?_)
      refine x_il1 (pc := 78) rfl rfl ?_
      refine x_step (pc := 79) (pc' := 83) rfl rfl rfl rfl ?_
      refine x_ret (pc := 83) rfl rfl ?_
      exact kk
    | 3, _, e =>
      subst e
      refine x_al1 (pc := 0) rfl rfl ?_
      refine x_const (pc := 1) (pc' := 2) (.int (nI 0)) rfl rfl rfl rfl ?_
      refine p_67_0 (pc := 2) rfl rfl ?_
      refine x_const (pc := 5) (pc' := 6) (.int (nI 0)) rfl rfl rfl rfl ?_
      refine x_is1 (pc := 6) (ml' := [some (.ref 67), some (.int (nI 3)), some (.int (nI 0)), none]) rfl rfl ?_
      refine x_const (pc := 7) (pc' := 8) (.int (nI 0)) rfl rfl rfl rfl ?_
      refine x_is1 (pc := 8) (ml' := [some (.ref 67), some (.int (nI 3)), some (.int (nI 0)), some (.int (nI 0))]) rfl rfl ?_
      refine l_160 (I := va_up I 60 (nI 0)) h 16 0 rfl ?_
      refine x_il1 (pc := 37) rfl rfl ?_
      refine x_const (pc := 38) (pc' := 39) (.int (nI 3)) rfl rfl rfl rfl ?_
      refine x_cmpN_ge (pc := 39) (t := 84) rfl rfl (by decide) (by decide) (fun _ => ?_) (fun c => absurd c (by decide))
      refine x_il1 (pc := 84) rfl rfl ?_
      refine x_const (pc := 85) (pc' := 86) (.int (nI 3)) rfl rfl rfl rfl ?_
      refine x_cmpN_ne (pc := 86) (t := 96) rfl rfl (by decide) (by decide) (fun c => absurd c (by decide)) (fun _ => ?_)
      refine x_al1 (pc := 89) rfl rfl ?_
      refine g_67_6 (pc := 90) (v := I 64) rfl rfl rfl ?_
      refine x_step (pc := 93) (pc' := 121) rfl rfl rfl rfl ?_
      refine x_ret (pc := 121) rfl rfl ?_
      exact kk
    | 4, _, e =>
      subst e
      refine x_al1 (pc := 0) rfl rfl ?_
      refine x_const (pc := 1) (pc' := 2) (.int (nI 0)) rfl rfl rfl rfl ?_
      refine p_67_0 (pc := 2) rfl rfl ?_
      refine x_const (pc := 5) (pc' := 6) (.int (nI 0)) rfl rfl rfl rfl ?_
      refine x_is1 (pc := 6) (ml' := [some (.ref 67), some (.int (nI 4)), some (.int (nI 0)), none]) rfl rfl ?_
      refine x_const (pc := 7) (pc' := 8) (.int (nI 0)) rfl rfl rfl rfl ?_
      refine x_is1 (pc := 8) (ml' := [some (.ref 67), some (.int (nI 4)), some (.int (nI 0)), some (.int (nI 0))]) rfl rfl ?_
      refine l_160 (I := va_up I 60 (nI 0)) h 16 0 rfl ?_
      refine x_il1 (pc := 37) rfl rfl ?_
      refine x_const (pc := 38) (pc' := 39) (.int (nI 3)) rfl rfl rfl rfl ?_
      refine x_cmpN_ge (pc := 39) (t := 84) rfl rfl (by decide) (by decide) (fun _ => ?_) (fun c => absurd c (by decide))
      refine x_il1 (pc := 84) rfl rfl ?_
      refine x_const (pc := 85) (pc' := 86) (.int (nI 3)) rfl rfl rfl rfl ?_
      refine x_cmpN_ne (pc := 86) (t := 96) rfl rfl (by decide) (by decide) (fun _ => ?_) (fun c => absurd c (by decide))
      refine x_il1 (pc := 96) rfl rfl ?_
      refine x_const (pc := 97) (pc' := 98) (.int (nI 4)) rfl rfl rfl rfl ?_
      refine x_cmpN_ne (pc := 98) (t := 108) rfl rfl (by decide) (by decide) (fun c => absurd c (by decide)) (fun _ => ?_)
      refine x_al1 (pc := 101) rfl rfl ?_
      refine g_67_18 (pc := 102) (v := I 70) rfl rfl rfl ?_
      refine x_step (pc := 105) (pc' := 121) rfl rfl rfl rfl ?_
      refine x_ret (pc := 121) rfl rfl ?_
      exact kk
    | 5, _, e =>
      subst e
      refine x_al1 (pc := 0) rfl rfl ?_
      refine x_const (pc := 1) (pc' := 2) (.int (nI 0)) rfl rfl rfl rfl ?_
      refine p_67_0 (pc := 2) rfl rfl ?_
      refine x_const (pc := 5) (pc' := 6) (.int (nI 0)) rfl rfl rfl rfl ?_
      refine x_is1 (pc := 6) (ml' := [some (.ref 67), some (.int (nI 5)), some (.int (nI 0)), none]) rfl rfl ?_
      refine x_const (pc := 7) (pc' := 8) (.int (nI 0)) rfl rfl rfl rfl ?_
      refine x_is1 (pc := 8) (ml' := [some (.ref 67), some (.int (nI 5)), some (.int (nI 0)), some (.int (nI 0))]) rfl rfl ?_
      refine l_160 (I := va_up I 60 (nI 0)) h 16 0 rfl ?_
      refine x_il1 (pc := 37) rfl rfl ?_
      refine x_const (pc := 38) (pc' := 39) (.int (nI 3)) rfl rfl rfl rfl ?_
      refine x_cmpN_ge (pc := 39) (t := 84) rfl rfl (by decide) (by decide) (fun _ => ?_) (fun c => absurd c (by decide))
      refine x_il1 (pc := 84) rfl rfl ?_
      refine x_const (pc := 85) (pc' := 86) (.int (nI 3)) rfl rfl rfl rfl ?_
      refine x_cmpN_ne (pc := 86) (t := 96) rfl rfl (by decide) (by decide) (fun _ => ?_) (fun c => absurd c (by decide))
      refine x_il1 (pc := 96) rfl rfl ?_
      refine x_const (pc := 97) (pc' := 98) (.int (nI 4)) rfl rfl rfl rfl ?_
      refine x_cmpN_ne (pc := 98) (t := 108) rfl rfl (by decide) (by decide) (fun _ => ?_) (fun c => absurd c (by decide))
      refine x_il1 (pc := 108) rfl rfl ?_
      refine x_const (pc := 109) (pc' := 110) (.int (nI 5)) rfl rfl rfl rfl ?_
      refine x_cmpN_ne (pc := 110) (t := 120) rfl rfl (by decide) (by decide) (fun c => absurd c (by decide)) (fun _ => ?_)
      refine x_al1 (pc := 113) rfl rfl ?_
      refine g_67_17 (pc := 114) (v := I 69) rfl rfl rfl ?_
      refine x_step (pc := 117) (pc' := 121) rfl rfl rfl rfl ?_
      refine x_ret (pc := 121) rfl rfl ?_
      exact kk
end S33
