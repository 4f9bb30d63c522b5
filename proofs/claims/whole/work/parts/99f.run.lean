/-! The law: all calls. -/
theorem cmpL {L i : Nat} (hL : L ≤ 2048) (hi : i ≤ L) (h : ¬ nI L - nI 4 < nI i) : i + 4 ≤ L := by
  rw [Int32.lt_iff_toInt_lt, pk_sub_toInt (by omega) (by omega), nI_toInt (by omega)] at h
  omega
def lawQ : mO × mHp → Prop := fun r => ∃ hp', r = (.inl (some (.int 1)), hp')
set_option maxRecDepth 100000 in
set_option maxHeartbeats 4000000 in
theorem l_161 {L : Nat} {xs : Nat → Int32} (hL : L ≤ 2048) : ∀ (z k : Nat) {n u : Nat} {I : Nat → Int32} {A : Nat → Nat → Int32} {J : Int64} {B : Nat → Int64} {mk sn : Nat} {X : Nat → mC} {S : DS} {l5 l6 : Option Value}, INV k S I A mk sn → 4 * k ≤ L → L < 4 * (k + z) → 77 ≤ n → n ≤ 77 + k → u ≤ 6041 + 6 * k → mq 161 23 [some (.ref 0), some (.ref 1), some (.ref 67), some (.ref 76), some (.int (nI (4 * k))), l5, l6] [] (hS n u I A J B mk sn L xs X) lawQ
  | 0, k, n, u, I, A, J, B, mq0, sq0, X, S, l5, l6, h, h1, h2, h3, h4, h5 => by
    exact absurd h2 (by omega)
  | z + 1, k, n, u, I, A, J, B, mq0, sq0, X, S, l5, l6, h, h1, h2, h3, h4, h5 => by
    refine x_il2 (pc := 23) rfl rfl ?_
    refine x_al1 (pc := 25) rfl rfl ?_
    refine x_len0 (pc := 26) rfl ?_
    refine x_const (pc := 27) (pc' := 28) (.int (nI 4)) rfl rfl rfl rfl ?_
    refine x_isub (pc := 28) rfl rfl ?_
    refine x_cmp_gt (pc := 29) (t := 954) rfl rfl rfl (fun _ => ?_) (fun hc => ?_)
    · refine x_const (pc := 954) (pc' := 955) (.int (nI 1)) rfl rfl rfl rfl ?_
      refine x_ret (pc := 955) rfl rfl ?_
      exact ⟨_, rfl⟩
    · have hi : 4 * k + 4 ≤ L := cmpL hL h1 hc
      have hk : k ≤ 1000 := by omega
      have hn : 77 ≤ n ∧ n < 10000 := ⟨h3, by omega⟩
      have hu : u + 6 < 1000000 := by omega
      have kk : ∀ n' u' I' A' J' B' mk' sn' X' S' l5' l6', INV (k + 1) S' I' A' mk' sn' → n ≤ n' → n' ≤ n + 1 → u' ≤ u + 6 → mq 161 948 [some (.ref 0), some (.ref 1), some (.ref 67), some (.ref 76), some (.int (nI (4 * k))), l5', l6'] [] (hS n' u' I' A' J' B' mk' sn' L xs X') lawQ := fun n' u' I' A' J' B' mk' sn' X' S' l5' l6' hI a1 a2 a3 => by
        refine x_iincN (pc := 948) (c := 4) (ml' := [some (.ref 0), some (.ref 1), some (.ref 67), some (.ref 76), some (.int (nI (4 * k + 4))), l5', l6']) rfl (by decide) rfl rfl ?_
        refine x_step (pc := 951) (pc' := 23) rfl rfl rfl rfl ?_
        exact l_161 hL z (k + 1) hI (by omega) (by omega) (by omega) (by omega) (by omega)
      refine x_al1 (pc := 32) rfl rfl ?_
      refine x_il2 (pc := 33) rfl rfl ?_
      refine x_scr (pc := 35) rfl (by omega) hL ?_
      refine x_const (pc := 36) (pc' := 38) (.int (nI 15)) rfl rfl rfl rfl ?_
      refine x_iand (pc := 38) rfl rfl ?_
      obtain ⟨j, hj, ej⟩ : ∃ j : Nat, j < 16 ∧ xs (4 * k) &&& nI 15 = nI j := pk_andE (xs (4 * k)) (m := nI 15) 4 (by decide)
      match j, hj, ej with
      | 0, _, ej => exact x_tabi (pc := 39) (i := 0) (t := 116) rfl rfl ej (la_0 h hk hn hu hi hL kk)
      | 1, _, ej => exact x_tabi (pc := 39) (i := 1) (t := 165) rfl rfl ej (la_1 h hk hn hu hi hL kk)
      | 2, _, ej => exact x_tabi (pc := 39) (i := 2) (t := 202) rfl rfl ej (la_2 h hk hn hu hi hL kk)
      | 3, _, ej => exact x_tabi (pc := 39) (i := 3) (t := 282) rfl rfl ej (la_3 h hk hn hu hi hL kk)
      | 4, _, ej => exact x_tabi (pc := 39) (i := 4) (t := 362) rfl rfl ej (la_4 h hk hn hu hi hL kk)
      | 5, _, ej => exact x_tabi (pc := 39) (i := 5) (t := 430) rfl rfl ej (la_5 h hk hn hu hi hL kk)
      | 6, _, ej => exact x_tabi (pc := 39) (i := 6) (t := 498) rfl rfl ej (la_6 h hk hn hu hi hL kk)
      | 7, _, ej => exact x_tabi (pc := 39) (i := 7) (t := 558) rfl rfl ej (la_7 h hk hn hu hi hL kk)
      | 8, _, ej => exact x_tabi (pc := 39) (i := 8) (t := 626) rfl rfl ej (la_8 h hk hn hu hi hL kk)
      | 9, _, ej => exact x_tabi (pc := 39) (i := 9) (t := 694) rfl rfl ej (la_9 h hk hn hu hi hL kk)
      | 10, _, ej => exact x_tabi (pc := 39) (i := 10) (t := 762) rfl rfl ej (la_10 h hk hn hu hi hL kk)
      | 11, _, ej => exact x_tabi (pc := 39) (i := 11) (t := 787) rfl rfl ej (la_11 h hk hn hu hi hL kk)
      | 12, _, ej => exact x_tabi (pc := 39) (i := 12) (t := 800) rfl rfl ej (la_12 h hk hn hu hi hL kk)
      | 13, _, ej => exact x_tabi (pc := 39) (i := 13) (t := 837) rfl rfl ej (la_13 h hk hn hu hi hL kk)
      | 14, _, ej => exact x_tabi (pc := 39) (i := 14) (t := 886) rfl rfl ej (la_14 h hk hn hu hi hL kk)
      | 15, _, ej => exact x_tabi (pc := 39) (i := 15) (t := 923) rfl rfl ej (la_15 h hk hn hu hi hL kk)
      | w + 16, hj, _ => exact absurd hj (by omega)
set_option maxRecDepth 100000 in
set_option maxHeartbeats 4000000 in
theorem mw_run : mw_Run := fun L xs hL => by
  have e : mhp0 L xs = (1, 0, HPf [.inl (.boolean, L, .inl xs)] (fun _ => mjunk)) := by
    unfold mhp0
    refine congrArg (fun g => (1, 0, g)) ?_
    funext a
    cases a <;> rfl
  obtain ⟨n, r, h1, hp', e2⟩ : mq 161 0 (ment 7 [.ref 0]) [] (1, 0, HPf [.inl (.boolean, L, .inl xs)] (fun _ => mjunk)) lawQ := by
    refine start_ok (fun f1 f2 f3 f4 f5 g1 g2 g3 g4 g5 => ?_)
    refine x_const (pc := 20) (pc' := 21) (.int (nI 0)) rfl rfl rfl rfl ?_
    refine x_is2 (pc := 21) (ml' := [some (.ref 0), some (.ref 1), some (.ref 67), some (.ref 76), some (.int (nI 0)), none, none]) rfl rfl ?_
    exact l_161 hL (L + 1) 0 (INV_0 g1 g2 g3 g4 g5) (Nat.zero_le _) (by omega) (by omega) (by omega) (by omega)
  refine ⟨n, hp', ?_⟩
  rw [e]
  subst e2
  exact h1
