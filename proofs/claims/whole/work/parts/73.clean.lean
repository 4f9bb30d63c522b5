/-! clean: the class and the model. -/
section S73
variable {n u : Nat} {I : Nat → Int32} {A : Nat → Nat → Int32} {J : Int64} {B : Nat → Int64} {mk sn L : Nat} {xs : Nat → Int32} {X : Nat → mC} {D : Nat → Nat} 
set_option maxRecDepth 100000 in
set_option maxHeartbeats 4000000 in
theorem k_93_2 {S : DS} (hD : kD mk S I A) (ho : dO S = false) {cn N : Nat} {f bc : Nat → Nat} {t : Int32} (hmk : mks mk sn) (hn : 77 ≤ n ∧ n < 10000) (hu : u + 6 < 1000000) (hWL : WL (dD S) 2 f bc cn N) (hN : N ≤ 2 ^ 31) (hc : I 46 = nI cn) (hsl : ∀ j, j < cn → A 38 j = nI (f j)) {Q : mO × mHp → Prop} (kk : dO (cl 2 (t.toInt64 - 100) 16 S f bc cn 0 0).1 = false → ∀ I' A', Fr [2, 3, 4, 5, 6, 7, 8, 9, 10, 12, 13, 14, 15, 20, 21, 22, 23, 24, 25, 46] I I' → Fr [0, 2, 3, 4, 10, 11, 12, 13, 14, 15, 16, 17, 18, 19, 38] A A' → kD mk (cl 2 (t.toInt64 - 100) 16 S f bc cn 0 0).1 I' A' → I' 46 = nI (cl 2 (t.toInt64 - 100) 16 S f bc cn 0 0).2.2.2.1 → (∀ j, j < (cl 2 (t.toInt64 - 100) 16 S f bc cn 0 0).2.2.2.1 → A' 38 j = nI ((cl 2 (t.toInt64 - 100) 16 S f bc cn 0 0).2.1 j)) → Q (.inl (some (.int (nI (cl 2 (t.toInt64 - 100) 16 S f bc cn 0 0).2.2.2.2))), hS n u I' A' (t.toInt64 - 100) B mk sn L xs X)) (kx : dO (cl 2 (t.toInt64 - 100) 16 S f bc cn 0 0).1 = true → ∀ I' A', Up 60 I I' → Up 50 A A' → kD mk (cl 2 (t.toInt64 - 100) 16 S f bc cn 0 0).1 I' A' → Q (.inr n, hS (n + 1) (u + 6) I' A' (t.toInt64 - 100) B mk sn L xs (va_up X n (.inr (9, []))))) : mq 93 0 [some (.ref 1), some (.int (nI 2)), some (.int t), none, none, none, none, none, none] [] (hS n u I A J B mk sn L xs X) Q := by
  refine x_al1 (pc := 0) rfl rfl ?_
  refine x_k (pc := 1) rfl rfl rfl ⟨Nat.le_of_ble_eq_true rfl, Nat.le_of_ble_eq_true rfl, Nat.le_of_ble_eq_true rfl⟩ rfl (k_60 (I := I) (kD_1 hD ho) ?_)
  show mq 93 4 [some (.ref 1), some (.int (nI 2)), some (.int t), none, none, none, none, none, none] [] (hS n u I A J B mk sn L xs X) _
  refine x_il1 (pc := 4) rfl rfl ?_
  refine x_const (pc := 5) (pc' := 6) (.int (nI 2)) rfl rfl rfl rfl ?_
  refine x_cmpN_lt (pc := 6) (t := 14) rfl rfl (by decide) (by decide) (fun c => absurd c (by decide)) (fun _ => ?_)
  refine x_il1 (pc := 9) rfl rfl ?_
  refine x_const (pc := 10) (pc' := 11) (.int (nI 4)) rfl rfl rfl rfl ?_
  refine x_cmpN_lt (pc := 11) (t := 24) rfl rfl (by decide) (by decide) (fun _ => ?_) (fun c => absurd c (by decide))
  refine x_al1 (pc := 24) rfl rfl ?_
  refine g_1_2 (pc := 25) rfl rfl ?_
  refine x_il1 (pc := 28) rfl rfl ?_
  refine aal (pc := 29) (q := 2) (a := 23) rfl rfl (by decide) rfl ?_
  refine x_as1 (pc := 30) (ml' := [some (.ref 1), some (.int (nI 2)), some (.int t), some (.ref 23), none, none, none, none, none]) rfl rfl ?_
  refine x_al1 (pc := 31) rfl rfl ?_
  refine x_al1 (pc := 32) rfl rfl ?_
  refine x_il1 (pc := 33) rfl rfl ?_
  refine x_i2l (pc := 34) rfl rfl ?_
  refine x_const (pc := 35) (pc' := 38) (.long 100) rfl rfl rfl rfl ?_
  refine x_lsub (pc := 38) rfl rfl ?_
  refine x_k (pc := 39) rfl rfl rfl ⟨Nat.le_of_ble_eq_true rfl, Nat.le_of_ble_eq_true rfl, Nat.le_of_ble_eq_true rfl⟩ rfl (k_94_2 (I := I) (A := A) (D := dD S) (f := f) (bc := bc) (lim := (t.toInt64 - 100)) hD.2.1 (SG_le hWL.1) (fun k hk => ⟨(hWL.1.1 k hk).1, hWL.2.1 k hk⟩) hc hsl (fun I1 A1 f1 g1 x1 h1 => ?_))
  show mq 93 42 [some (.ref 1), some (.int (nI 2)), some (.int t), some (.ref 23), none, none, none, none, none] [] (hS n u I1 A1 (t.toInt64 - 100) B mk sn L xs X) _
  refine x_const (pc := 42) (pc' := 43) (.int (nI 0)) rfl rfl rfl rfl ?_
  refine x_is2 (pc := 43) (ml' := [some (.ref 1), some (.int (nI 2)), some (.int t), some (.ref 23), some (.int (nI 0)), none, none, none, none]) rfl rfl ?_
  refine x_const (pc := 45) (pc' := 46) (.int (nI 0)) rfl rfl rfl rfl ?_
  refine x_is2 (pc := 46) (ml' := [some (.ref 1), some (.int (nI 2)), some (.int t), some (.ref 23), some (.int (nI 0)), some (.int (nI 0)), none, none, none]) rfl rfl ?_
  refine x_const (pc := 48) (pc' := 49) (.int (nI 0)) rfl rfl rfl rfl ?_
  refine x_is2 (pc := 49) (ml' := [some (.ref 1), some (.int (nI 2)), some (.int t), some (.ref 23), some (.int (nI 0)), some (.int (nI 0)), some (.int (nI 0)), none, none]) rfl rfl ?_
  have hZ : fl (fun k => sRs (dD S) (f k) (bc (f k))) cn = [] ++ sf (dD S) f bc (cn - 0) 0 := by
    have h5 := fl_sf (dD S) f bc cn 0
    rw [Nat.zero_add] at h5
    rw [h5, Nat.sub_zero]
    rfl
  have h30 := fl_30 (fun k hk => ⟨(hWL.1.1 k hk).1, hWL.2.1 k hk⟩) cn (Nat.le_refl _)
  have h16 := SG_le hWL.1
  exact l_93_2 (N := N) (Z := fl (fun k => sRs (dD S) (f k) (bc (f k))) cn) hmk hn hu 16 0 0 0 cn 0 (P0 := []) none none (I := I1) (A := A1) rfl (by omega) (by decide) (kD_on hD ho f1 g1 (by decide) (by decide)) ho hWL hN (by decide) rfl hZ (by omega) h1 x1 ((f1 46 (by decide)).trans hc) (fun j hj => by rw [g1 38 (by decide)]; exact hsl j hj) (fun o2 I2 A2 f2 g2 h2 x2 y2 => kk o2 I2 A2 (Fr_cons (Fr_cons (Fr_refl _ _) f1 (by decide)) (show Fr [2, 3, 4, 5, 6, 7, 8, 9, 10, 13, 14, 15, 20, 21, 22, 23, 24, 25, 46] I1 I2 from f2) (by decide)) (Fr_cons (Fr_cons (Fr_refl _ _) g1 (by decide)) g2 (by decide)) h2 x2 y2) (fun o2 I2 A2 f2 g2 h2 => kx o2 I2 A2 (Up_tr (Up_fr f1 (by decide)) f2) (Up_tr (Up_fr g1 (by decide)) g2) h2)
set_option maxRecDepth 100000 in
set_option maxHeartbeats 4000000 in
theorem k_93_3 {S : DS} (hD : kD mk S I A) (ho : dO S = false) {cn N : Nat} {f bc : Nat → Nat} {t : Int32} (hmk : mks mk sn) (hn : 77 ≤ n ∧ n < 10000) (hu : u + 6 < 1000000) (hWL : WL (dD S) 3 f bc cn N) (hN : N ≤ 2 ^ 31) (hc : I 49 = nI cn) (hsl : ∀ j, j < cn → A 42 j = nI (f j)) {Q : mO × mHp → Prop} (kk : dO (cl 3 (t.toInt64 - 100) 16 S f bc cn 0 0).1 = false → ∀ I' A', Fr [2, 3, 4, 5, 6, 7, 8, 9, 10, 12, 13, 14, 15, 20, 21, 22, 23, 24, 25, 49] I I' → Fr [0, 2, 3, 4, 10, 11, 12, 13, 14, 15, 16, 17, 18, 19, 42] A A' → kD mk (cl 3 (t.toInt64 - 100) 16 S f bc cn 0 0).1 I' A' → I' 49 = nI (cl 3 (t.toInt64 - 100) 16 S f bc cn 0 0).2.2.2.1 → (∀ j, j < (cl 3 (t.toInt64 - 100) 16 S f bc cn 0 0).2.2.2.1 → A' 42 j = nI ((cl 3 (t.toInt64 - 100) 16 S f bc cn 0 0).2.1 j)) → Q (.inl (some (.int (nI (cl 3 (t.toInt64 - 100) 16 S f bc cn 0 0).2.2.2.2))), hS n u I' A' (t.toInt64 - 100) B mk sn L xs X)) (kx : dO (cl 3 (t.toInt64 - 100) 16 S f bc cn 0 0).1 = true → ∀ I' A', Up 60 I I' → Up 50 A A' → kD mk (cl 3 (t.toInt64 - 100) 16 S f bc cn 0 0).1 I' A' → Q (.inr n, hS (n + 1) (u + 6) I' A' (t.toInt64 - 100) B mk sn L xs (va_up X n (.inr (9, []))))) : mq 93 0 [some (.ref 1), some (.int (nI 3)), some (.int t), none, none, none, none, none, none] [] (hS n u I A J B mk sn L xs X) Q := by
  refine x_al1 (pc := 0) rfl rfl ?_
  refine x_k (pc := 1) rfl rfl rfl ⟨Nat.le_of_ble_eq_true rfl, Nat.le_of_ble_eq_true rfl, Nat.le_of_ble_eq_true rfl⟩ rfl (k_60 (I := I) (kD_1 hD ho) ?_)
  show mq 93 4 [some (.ref 1), some (.int (nI 3)), some (.int t), none, none, none, none, none, none] [] (hS n u I A J B mk sn L xs X) _
  refine x_il1 (pc := 4) rfl rfl ?_
  refine x_const (pc := 5) (pc' := 6) (.int (nI 2)) rfl rfl rfl rfl ?_
  refine x_cmpN_lt (pc := 6) (t := 14) rfl rfl (by decide) (by decide) (fun c => absurd c (by decide)) (fun _ => ?_)
  refine x_il1 (pc := 9) rfl rfl ?_
  refine x_const (pc := 10) (pc' := 11) (.int (nI 4)) rfl rfl rfl rfl ?_
  refine x_cmpN_lt (pc := 11) (t := 24) rfl rfl (by decide) (by decide) (fun _ => ?_) (fun c => absurd c (by decide))
  refine x_al1 (pc := 24) rfl rfl ?_
  refine g_1_2 (pc := 25) rfl rfl ?_
  refine x_il1 (pc := 28) rfl rfl ?_
  refine aal (pc := 29) (q := 3) (a := 28) rfl rfl (by decide) rfl ?_
  refine x_as1 (pc := 30) (ml' := [some (.ref 1), some (.int (nI 3)), some (.int t), some (.ref 28), none, none, none, none, none]) rfl rfl ?_
  refine x_al1 (pc := 31) rfl rfl ?_
  refine x_al1 (pc := 32) rfl rfl ?_
  refine x_il1 (pc := 33) rfl rfl ?_
  refine x_i2l (pc := 34) rfl rfl ?_
  refine x_const (pc := 35) (pc' := 38) (.long 100) rfl rfl rfl rfl ?_
  refine x_lsub (pc := 38) rfl rfl ?_
  refine x_k (pc := 39) rfl rfl rfl ⟨Nat.le_of_ble_eq_true rfl, Nat.le_of_ble_eq_true rfl, Nat.le_of_ble_eq_true rfl⟩ rfl (k_94_3 (I := I) (A := A) (D := dD S) (f := f) (bc := bc) (lim := (t.toInt64 - 100)) hD.2.1 (SG_le hWL.1) (fun k hk => ⟨(hWL.1.1 k hk).1, hWL.2.1 k hk⟩) hc hsl (fun I1 A1 f1 g1 x1 h1 => ?_))
  show mq 93 42 [some (.ref 1), some (.int (nI 3)), some (.int t), some (.ref 28), none, none, none, none, none] [] (hS n u I1 A1 (t.toInt64 - 100) B mk sn L xs X) _
  refine x_const (pc := 42) (pc' := 43) (.int (nI 0)) rfl rfl rfl rfl ?_
  refine x_is2 (pc := 43) (ml' := [some (.ref 1), some (.int (nI 3)), some (.int t), some (.ref 28), some (.int (nI 0)), none, none, none, none]) rfl rfl ?_
  refine x_const (pc := 45) (pc' := 46) (.int (nI 0)) rfl rfl rfl rfl ?_
  refine x_is2 (pc := 46) (ml' := [some (.ref 1), some (.int (nI 3)), some (.int t), some (.ref 28), some (.int (nI 0)), some (.int (nI 0)), none, none, none]) rfl rfl ?_
  refine x_const (pc := 48) (pc' := 49) (.int (nI 0)) rfl rfl rfl rfl ?_
  refine x_is2 (pc := 49) (ml' := [some (.ref 1), some (.int (nI 3)), some (.int t), some (.ref 28), some (.int (nI 0)), some (.int (nI 0)), some (.int (nI 0)), none, none]) rfl rfl ?_
  have hZ : fl (fun k => sRs (dD S) (f k) (bc (f k))) cn = [] ++ sf (dD S) f bc (cn - 0) 0 := by
    have h5 := fl_sf (dD S) f bc cn 0
    rw [Nat.zero_add] at h5
    rw [h5, Nat.sub_zero]
    rfl
  have h30 := fl_30 (fun k hk => ⟨(hWL.1.1 k hk).1, hWL.2.1 k hk⟩) cn (Nat.le_refl _)
  have h16 := SG_le hWL.1
  exact l_93_3 (N := N) (Z := fl (fun k => sRs (dD S) (f k) (bc (f k))) cn) hmk hn hu 16 0 0 0 cn 0 (P0 := []) none none (I := I1) (A := A1) rfl (by omega) (by decide) (kD_on hD ho f1 g1 (by decide) (by decide)) ho hWL hN (by decide) rfl hZ (by omega) h1 x1 ((f1 49 (by decide)).trans hc) (fun j hj => by rw [g1 42 (by decide)]; exact hsl j hj) (fun o2 I2 A2 f2 g2 h2 x2 y2 => kk o2 I2 A2 (Fr_cons (Fr_cons (Fr_refl _ _) f1 (by decide)) (show Fr [2, 3, 4, 5, 6, 7, 8, 9, 10, 13, 14, 15, 20, 21, 22, 23, 24, 25, 49] I1 I2 from f2) (by decide)) (Fr_cons (Fr_cons (Fr_refl _ _) g1 (by decide)) g2 (by decide)) h2 x2 y2) (fun o2 I2 A2 f2 g2 h2 => kx o2 I2 A2 (Up_tr (Up_fr f1 (by decide)) f2) (Up_tr (Up_fr g1 (by decide)) g2) h2)
set_option maxRecDepth 100000 in
set_option maxHeartbeats 4000000 in
theorem k_146x {l t : Int32} (h61 : I 61 = nI 1) {Q : mO × mHp → Prop} (kk : Q (.inl (some (.int (nI 0))), hS n u (va_up I 60 (nI 1)) A J B mk sn L xs X)) : mq 146 0 [some (.ref 67), some (.int l), some (.int t), none, none, none, none, none, none] [] (hS n u I A J B mk sn L xs X) Q := by
  refine x_al1 (pc := 0) rfl rfl ?_
  refine x_al1 (pc := 1) rfl rfl ?_
  refine g_67_2 (pc := 2) (v := nI 1) rfl rfl h61 ?_
  refine x_ifN_eq (pc := 5) (t := 12) rfl rfl (by decide) (fun c => absurd c (by decide)) (fun _ => ?_)
  refine x_const (pc := 8) (pc' := 9) (.int (nI 1)) rfl rfl rfl rfl ?_
  refine x_step (pc := 9) (pc' := 27) rfl rfl rfl rfl ?_
  refine x_k (pc := 27) rfl rfl rfl ⟨Nat.le_of_ble_eq_true rfl, Nat.le_of_ble_eq_true rfl, Nat.le_of_ble_eq_true rfl⟩ rfl (k_114 (I := I) (A := A) (w := 1) (by decide) ?_)
  show mq 146 30 [some (.ref 67), some (.int l), some (.int t), none, none, none, none, none, none] [.int (nI 1)] (hS n u (va_up I 60 (nI 1)) A J B mk sn L xs X) _
  refine x_ifN_eq (pc := 30) (t := 35) rfl rfl (by decide) (fun c => absurd c (by decide)) (fun _ => ?_)
  refine x_const (pc := 33) (pc' := 34) (.int (nI 0)) rfl rfl rfl rfl ?_
  refine x_ret (pc := 34) rfl rfl ?_
  exact kk
set_option maxRecDepth 100000 in
set_option maxHeartbeats 4000000 in
theorem k_146b {l t : Int32} (h61 : I 61 = nI 0) (hx : l < nI 2 ∨ nI 4 ≤ l) {Q : mO × mHp → Prop} (kk : Q (.inl (some (.int (nI 0))), hS n u (va_up I 60 (nI 2)) A J B mk sn L xs X)) : mq 146 0 [some (.ref 67), some (.int l), some (.int t), none, none, none, none, none, none] [] (hS n u I A J B mk sn L xs X) Q := by
  refine x_al1 (pc := 0) rfl rfl ?_
  refine x_al1 (pc := 1) rfl rfl ?_
  refine g_67_2 (pc := 2) (v := nI 0) rfl rfl h61 ?_
  refine x_ifN_eq (pc := 5) (t := 12) rfl rfl (by decide) (fun _ => ?_) (fun c => absurd c (by decide))
  refine x_il1 (pc := 12) rfl rfl ?_
  refine x_const (pc := 13) (pc' := 14) (.int (nI 2)) rfl rfl rfl rfl ?_
  refine x_cmp_lt (pc := 14) (t := 22) rfl rfl rfl (fun c14 => ?_) (fun c14 => ?_)
  · refine x_const (pc := 22) (pc' := 23) (.int (nI 2)) rfl rfl rfl rfl ?_
    refine x_step (pc := 23) (pc' := 27) rfl rfl rfl rfl ?_
    refine x_k (pc := 27) rfl rfl rfl ⟨Nat.le_of_ble_eq_true rfl, Nat.le_of_ble_eq_true rfl, Nat.le_of_ble_eq_true rfl⟩ rfl (k_114 (I := I) (A := A) (w := 2) (by decide) ?_)
    show mq 146 30 [some (.ref 67), some (.int l), some (.int t), none, none, none, none, none, none] [.int (nI 1)] (hS n u (va_up I 60 (nI 2)) A J B mk sn L xs X) _
    refine x_ifN_eq (pc := 30) (t := 35) rfl rfl (by decide) (fun c => absurd c (by decide)) (fun _ => ?_)
    refine x_const (pc := 33) (pc' := 34) (.int (nI 0)) rfl rfl rfl rfl ?_
    refine x_ret (pc := 34) rfl rfl ?_
    exact kk
  · refine x_il1 (pc := 17) rfl rfl ?_
    refine x_const (pc := 18) (pc' := 19) (.int (nI 3)) rfl rfl rfl rfl ?_
    refine x_cmp_le (pc := 19) (t := 26) rfl rfl rfl (fun c19 => ?_) (fun c19 => ?_)
    · rcases hx with h | h
      · exact absurd h c14
      · exact absurd h (ngt_of (m := 3) (by decide) (Int32.not_lt.mpr c19))
    · refine x_const (pc := 22) (pc' := 23) (.int (nI 2)) rfl rfl rfl rfl ?_
      refine x_step (pc := 23) (pc' := 27) rfl rfl rfl rfl ?_
      refine x_k (pc := 27) rfl rfl rfl ⟨Nat.le_of_ble_eq_true rfl, Nat.le_of_ble_eq_true rfl, Nat.le_of_ble_eq_true rfl⟩ rfl (k_114 (I := I) (A := A) (w := 2) (by decide) ?_)
      show mq 146 30 [some (.ref 67), some (.int l), some (.int t), none, none, none, none, none, none] [.int (nI 1)] (hS n u (va_up I 60 (nI 2)) A J B mk sn L xs X) _
      refine x_ifN_eq (pc := 30) (t := 35) rfl rfl (by decide) (fun c => absurd c (by decide)) (fun _ => ?_)
      refine x_const (pc := 33) (pc' := 34) (.int (nI 0)) rfl rfl rfl rfl ?_
      refine x_ret (pc := 34) rfl rfl ?_
      exact kk
set_option maxRecDepth 100000 in
set_option maxHeartbeats 4000000 in
theorem l_146 {l N : Nat} {t : Int32} (hl : l < 4) (hN : N ≤ 2 ^ 31) {Q : mO × mHp → Prop} : ∀ (z v x cn : Nat) {S : DS} {f bc : Nat → Nat} (w5 w6 w7 w8 : Option Value) {I : Nat → Int32} {A : Nat → Nat → Int32}, (mD S I A) → (I 60 = nI 0) → (dO S = false → cn ≤ x + z + 1) → (x ≤ 16) → (dO S = false → WL (dD S) l f bc cn N) → (dO (cl l (t.toInt64 - 100) z S f bc cn x v).1 = false → ∀ I' A', Fr [60, 62, 63, 65, 66, 67, 68, 71] I I' → Fr [50, 52, 54] A A' → mD (cl l (t.toInt64 - 100) z S f bc cn x v).1 I' A' → I' 60 = nI 0 → Q (.inl (some (.int (nI (cl l (t.toInt64 - 100) z S f bc cn x v).2.2.2.2))), hS n u I' A' J B mk sn L xs X)) → (dO (cl l (t.toInt64 - 100) z S f bc cn x v).1 = true → ∀ I' A', Fr [60, 61, 62, 63, 64, 65, 66, 67, 68, 69, 70, 71] I I' → Fr [50, 52, 54, 55, 56] A A' → mD (cl l (t.toInt64 - 100) z S f bc cn x v).1 I' A' → I' 60 = nI 1 → Q (.inl (some (.int (nI 0))), hS n u I' A' J B mk sn L xs X)) → mq 146 40 [some (.ref 67), some (.int (nI l)), some (.int t), some (.int (nI v)), some (.int (nI x)), w5, w6, w7, w8] [] (hS n u I A J B mk sn L xs X) Q := by
  intro z
  induction z with
  | zero =>
    intro v x cn S f bc w5 w6 w7 w8 I A hM h60 hcz hx16 hWL kk kx
    by_cases ho : dO S = true
    · have h61 : I 61 = nI 1 := by
        rw [hM.1.1, ho]
        rfl
      refine x_il2 (pc := 40) rfl rfl ?_
      refine x_al1 (pc := 42) rfl rfl ?_
      refine x_il1 (pc := 43) rfl rfl ?_
      refine x_k (pc := 44) rfl rfl rfl ⟨Nat.le_of_ble_eq_true rfl, Nat.le_of_ble_eq_true rfl, Nat.le_of_ble_eq_true rfl⟩ rfl (k_117f (I := I) (A := A) h61 ?_)
      show mq 146 47 [some (.ref 67), some (.int (nI l)), some (.int t), some (.int (nI v)), some (.int (nI x)), w5, w6, w7, w8] [.int (nI 0), .int (nI x)] (hS n u I A J B mk sn L xs X) _
      refine x_const (pc := 47) (pc' := 48) (.int (nI 1)) rfl rfl rfl rfl ?_
      refine x_isubV (pc := 48) (v := (-1)) rfl (by decide) ?_
      refine x_cmp_ge (pc := 49) (t := 190) rfl rfl rfl (fun c49 => ?_) (fun c49 => ?_)
      · refine x_al1 (pc := 190) rfl rfl ?_
        refine x_al1 (pc := 191) rfl rfl ?_
        refine g_67_2 (pc := 192) (v := nI 1) rfl rfl h61 ?_
        refine x_ifN_eq (pc := 195) (t := 202) rfl rfl (by decide) (fun c => absurd c (by decide)) (fun _ => ?_)
        refine x_const (pc := 198) (pc' := 199) (.int (nI 1)) rfl rfl rfl rfl ?_
        refine x_step (pc := 199) (pc' := 203) rfl rfl rfl rfl ?_
        refine x_k (pc := 203) rfl rfl rfl ⟨Nat.le_of_ble_eq_true rfl, Nat.le_of_ble_eq_true rfl, Nat.le_of_ble_eq_true rfl⟩ rfl (k_114 (I := I) (A := A) (w := 1) (by decide) ?_)
        show mq 146 206 [some (.ref 67), some (.int (nI l)), some (.int t), some (.int (nI v)), some (.int (nI x)), w5, w6, w7, w8] [.int (nI 1)] (hS n u (va_up I 60 (nI 1)) A J B mk sn L xs X) _
        refine x_ifN_eq (pc := 206) (t := 213) rfl rfl (by decide) (fun c => absurd c (by decide)) (fun _ => ?_)
        refine x_const (pc := 209) (pc' := 210) (.int (nI 0)) rfl rfl rfl rfl ?_
        refine x_step (pc := 210) (pc' := 214) rfl rfl rfl rfl ?_
        refine x_ret (pc := 214) rfl rfl ?_
        exact kx ho _ _ (Fr_u (Fr_refl _ _) (by decide)) (Fr_refl _ _) (mD_off hM (Fr_up I 60 _) (by decide)) rfl
      · exact absurd (m1_le x (by omega)) c49
    · have of := ne_true ho
      have h61 : I 61 = nI 0 := by
        rw [hM.1.1, of]
        rfl
      have hw := hWL of
      have h16 := SG_le hw.1
      have hcz0 := hcz of
      rcases Nat.eq_zero_or_pos cn with hc0 | hcp
      · refine x_il2 (pc := 40) rfl rfl ?_
        refine x_al1 (pc := 42) rfl rfl ?_
        refine x_il1 (pc := 43) rfl rfl ?_
        refine x_k (pc := 44) rfl rfl rfl ⟨Nat.le_of_ble_eq_true rfl, Nat.le_of_ble_eq_true rfl, Nat.le_of_ble_eq_true rfl⟩ rfl (k_117 (I := I) (A := A) hM.2.1 hl h61 ?_)
        show mq 146 47 [some (.ref 67), some (.int (nI l)), some (.int t), some (.int (nI v)), some (.int (nI x)), w5, w6, w7, w8] [.int (nI (cS (ow (dD S) l) 16)), .int (nI x)] (hS n u I A J B mk sn L xs X) _
        refine x_top (y := nI cn) (congrArg nI (SG_n hw.1)) ?_
        refine x_const (pc := 47) (pc' := 48) (.int (nI 1)) rfl rfl rfl rfl ?_
        refine x_isubV (pc := 48) (v := (-1)) rfl (by rw [hc0]; decide) ?_
        refine x_cmp_ge (pc := 49) (t := 190) rfl rfl rfl (fun c49 => ?_) (fun c49 => ?_)
        · refine x_al1 (pc := 190) rfl rfl ?_
          refine x_al1 (pc := 191) rfl rfl ?_
          refine g_67_2 (pc := 192) (v := nI 0) rfl rfl h61 ?_
          refine x_ifN_eq (pc := 195) (t := 202) rfl rfl (by decide) (fun _ => ?_) (fun c => absurd c (by decide))
          refine x_const (pc := 202) (pc' := 203) (.int (nI 0)) rfl rfl rfl rfl ?_
          refine x_k (pc := 203) rfl rfl rfl ⟨Nat.le_of_ble_eq_true rfl, Nat.le_of_ble_eq_true rfl, Nat.le_of_ble_eq_true rfl⟩ rfl (k_114 (I := I) (A := A) (w := 0) (by decide) ?_)
          show mq 146 206 [some (.ref 67), some (.int (nI l)), some (.int t), some (.int (nI v)), some (.int (nI x)), w5, w6, w7, w8] [.int (nI 0)] (hS n u (va_up I 60 (nI 0)) A J B mk sn L xs X) _
          refine x_ifN_eq (pc := 206) (t := 213) rfl rfl (by decide) (fun _ => ?_) (fun c => absurd c (by decide))
          refine x_il1 (pc := 213) rfl rfl ?_
          refine x_ret (pc := 214) rfl rfl ?_
          exact kk of _ _ (Fr_u (Fr_refl _ _) (by decide)) (Fr_refl _ _) (mD_on hM of (Fr_up I 60 _) (Fr_refl [] A) (by decide) (by decide)) rfl
        · exact absurd (m1_le x (by omega)) c49
      · refine x_il2 (pc := 40) rfl rfl ?_
        refine x_al1 (pc := 42) rfl rfl ?_
        refine x_il1 (pc := 43) rfl rfl ?_
        refine x_k (pc := 44) rfl rfl rfl ⟨Nat.le_of_ble_eq_true rfl, Nat.le_of_ble_eq_true rfl, Nat.le_of_ble_eq_true rfl⟩ rfl (k_117 (I := I) (A := A) hM.2.1 hl h61 ?_)
        show mq 146 47 [some (.ref 67), some (.int (nI l)), some (.int t), some (.int (nI v)), some (.int (nI x)), w5, w6, w7, w8] [.int (nI (cS (ow (dD S) l) 16)), .int (nI x)] (hS n u I A J B mk sn L xs X) _
        refine x_top (y := nI cn) (congrArg nI (SG_n hw.1)) ?_
        refine x_const (pc := 47) (pc' := 48) (.int (nI 1)) rfl rfl rfl rfl ?_
        refine x_isubN (pc := 48) rfl ((by omega)) ?_
        refine x_cmpN_ge (pc := 49) (t := 190) rfl rfl (by omega) (by omega) (fun c49 => ?_) (fun c49 => ?_)
        · refine x_al1 (pc := 190) rfl rfl ?_
          refine x_al1 (pc := 191) rfl rfl ?_
          refine g_67_2 (pc := 192) (v := nI 0) rfl rfl h61 ?_
          refine x_ifN_eq (pc := 195) (t := 202) rfl rfl (by decide) (fun _ => ?_) (fun c => absurd c (by decide))
          refine x_const (pc := 202) (pc' := 203) (.int (nI 0)) rfl rfl rfl rfl ?_
          refine x_k (pc := 203) rfl rfl rfl ⟨Nat.le_of_ble_eq_true rfl, Nat.le_of_ble_eq_true rfl, Nat.le_of_ble_eq_true rfl⟩ rfl (k_114 (I := I) (A := A) (w := 0) (by decide) ?_)
          show mq 146 206 [some (.ref 67), some (.int (nI l)), some (.int t), some (.int (nI v)), some (.int (nI x)), w5, w6, w7, w8] [.int (nI 0)] (hS n u (va_up I 60 (nI 0)) A J B mk sn L xs X) _
          refine x_ifN_eq (pc := 206) (t := 213) rfl rfl (by decide) (fun _ => ?_) (fun c => absurd c (by decide))
          refine x_il1 (pc := 213) rfl rfl ?_
          refine x_ret (pc := 214) rfl rfl ?_
          exact kk of _ _ (Fr_u (Fr_refl _ _) (by decide)) (Fr_refl _ _) (mD_on hM of (Fr_up I 60 _) (Fr_refl [] A) (by decide) (by decide)) rfl
        · omega
  | succ z ih =>
    intro v x cn S f bc w5 w6 w7 w8 I A hM h60 hcz hx16 hWL kk kx
    by_cases ho : dO S = true
    · have h61 : I 61 = nI 1 := by
        rw [hM.1.1, ho]
        rfl
      rw [cl_off ho] at kx
      refine x_il2 (pc := 40) rfl rfl ?_
      refine x_al1 (pc := 42) rfl rfl ?_
      refine x_il1 (pc := 43) rfl rfl ?_
      refine x_k (pc := 44) rfl rfl rfl ⟨Nat.le_of_ble_eq_true rfl, Nat.le_of_ble_eq_true rfl, Nat.le_of_ble_eq_true rfl⟩ rfl (k_117f (I := I) (A := A) h61 ?_)
      show mq 146 47 [some (.ref 67), some (.int (nI l)), some (.int t), some (.int (nI v)), some (.int (nI x)), w5, w6, w7, w8] [.int (nI 0), .int (nI x)] (hS n u I A J B mk sn L xs X) _
      refine x_const (pc := 47) (pc' := 48) (.int (nI 1)) rfl rfl rfl rfl ?_
      refine x_isubV (pc := 48) (v := (-1)) rfl (by decide) ?_
      refine x_cmp_ge (pc := 49) (t := 190) rfl rfl rfl (fun c49 => ?_) (fun c49 => ?_)
      · refine x_al1 (pc := 190) rfl rfl ?_
        refine x_al1 (pc := 191) rfl rfl ?_
        refine g_67_2 (pc := 192) (v := nI 1) rfl rfl h61 ?_
        refine x_ifN_eq (pc := 195) (t := 202) rfl rfl (by decide) (fun c => absurd c (by decide)) (fun _ => ?_)
        refine x_const (pc := 198) (pc' := 199) (.int (nI 1)) rfl rfl rfl rfl ?_
        refine x_step (pc := 199) (pc' := 203) rfl rfl rfl rfl ?_
        refine x_k (pc := 203) rfl rfl rfl ⟨Nat.le_of_ble_eq_true rfl, Nat.le_of_ble_eq_true rfl, Nat.le_of_ble_eq_true rfl⟩ rfl (k_114 (I := I) (A := A) (w := 1) (by decide) ?_)
        show mq 146 206 [some (.ref 67), some (.int (nI l)), some (.int t), some (.int (nI v)), some (.int (nI x)), w5, w6, w7, w8] [.int (nI 1)] (hS n u (va_up I 60 (nI 1)) A J B mk sn L xs X) _
        refine x_ifN_eq (pc := 206) (t := 213) rfl rfl (by decide) (fun c => absurd c (by decide)) (fun _ => ?_)
        refine x_const (pc := 209) (pc' := 210) (.int (nI 0)) rfl rfl rfl rfl ?_
        refine x_step (pc := 210) (pc' := 214) rfl rfl rfl rfl ?_
        refine x_ret (pc := 214) rfl rfl ?_
        exact kx ho _ _ (Fr_u (Fr_refl _ _) (by decide)) (Fr_refl _ _) (mD_off hM (Fr_up I 60 _) (by decide)) rfl
      · exact absurd (m1_le x (by omega)) c49
    · have of := ne_true ho
      have h61 : I 61 = nI 0 := by
        rw [hM.1.1, of]
        rfl
      have hw := hWL of
      have h16 := SG_le hw.1
      by_cases hxn : x + 1 < cn
      case neg =>
        have ev : cl l (t.toInt64 - 100) (z + 1) S f bc cn x v = (S, f, bc, cn, v) := if_pos (Or.inr hxn)
        rw [ev] at kk
        rcases Nat.eq_zero_or_pos cn with hc0 | hcp
        · refine x_il2 (pc := 40) rfl rfl ?_
          refine x_al1 (pc := 42) rfl rfl ?_
          refine x_il1 (pc := 43) rfl rfl ?_
          refine x_k (pc := 44) rfl rfl rfl ⟨Nat.le_of_ble_eq_true rfl, Nat.le_of_ble_eq_true rfl, Nat.le_of_ble_eq_true rfl⟩ rfl (k_117 (I := I) (A := A) hM.2.1 hl h61 ?_)
          show mq 146 47 [some (.ref 67), some (.int (nI l)), some (.int t), some (.int (nI v)), some (.int (nI x)), w5, w6, w7, w8] [.int (nI (cS (ow (dD S) l) 16)), .int (nI x)] (hS n u I A J B mk sn L xs X) _
          refine x_top (y := nI cn) (congrArg nI (SG_n hw.1)) ?_
          refine x_const (pc := 47) (pc' := 48) (.int (nI 1)) rfl rfl rfl rfl ?_
          refine x_isubV (pc := 48) (v := (-1)) rfl (by rw [hc0]; decide) ?_
          refine x_cmp_ge (pc := 49) (t := 190) rfl rfl rfl (fun c49 => ?_) (fun c49 => ?_)
          · refine x_al1 (pc := 190) rfl rfl ?_
            refine x_al1 (pc := 191) rfl rfl ?_
            refine g_67_2 (pc := 192) (v := nI 0) rfl rfl h61 ?_
            refine x_ifN_eq (pc := 195) (t := 202) rfl rfl (by decide) (fun _ => ?_) (fun c => absurd c (by decide))
            refine x_const (pc := 202) (pc' := 203) (.int (nI 0)) rfl rfl rfl rfl ?_
            refine x_k (pc := 203) rfl rfl rfl ⟨Nat.le_of_ble_eq_true rfl, Nat.le_of_ble_eq_true rfl, Nat.le_of_ble_eq_true rfl⟩ rfl (k_114 (I := I) (A := A) (w := 0) (by decide) ?_)
            show mq 146 206 [some (.ref 67), some (.int (nI l)), some (.int t), some (.int (nI v)), some (.int (nI x)), w5, w6, w7, w8] [.int (nI 0)] (hS n u (va_up I 60 (nI 0)) A J B mk sn L xs X) _
            refine x_ifN_eq (pc := 206) (t := 213) rfl rfl (by decide) (fun _ => ?_) (fun c => absurd c (by decide))
            refine x_il1 (pc := 213) rfl rfl ?_
            refine x_ret (pc := 214) rfl rfl ?_
            exact kk of _ _ (Fr_u (Fr_refl _ _) (by decide)) (Fr_refl _ _) (mD_on hM of (Fr_up I 60 _) (Fr_refl [] A) (by decide) (by decide)) rfl
          · exact absurd (m1_le x (by omega)) c49
        · refine x_il2 (pc := 40) rfl rfl ?_
          refine x_al1 (pc := 42) rfl rfl ?_
          refine x_il1 (pc := 43) rfl rfl ?_
          refine x_k (pc := 44) rfl rfl rfl ⟨Nat.le_of_ble_eq_true rfl, Nat.le_of_ble_eq_true rfl, Nat.le_of_ble_eq_true rfl⟩ rfl (k_117 (I := I) (A := A) hM.2.1 hl h61 ?_)
          show mq 146 47 [some (.ref 67), some (.int (nI l)), some (.int t), some (.int (nI v)), some (.int (nI x)), w5, w6, w7, w8] [.int (nI (cS (ow (dD S) l) 16)), .int (nI x)] (hS n u I A J B mk sn L xs X) _
          refine x_top (y := nI cn) (congrArg nI (SG_n hw.1)) ?_
          refine x_const (pc := 47) (pc' := 48) (.int (nI 1)) rfl rfl rfl rfl ?_
          refine x_isubN (pc := 48) rfl ((by omega)) ?_
          refine x_cmpN_ge (pc := 49) (t := 190) rfl rfl (by omega) (by omega) (fun c49 => ?_) (fun c49 => ?_)
          · refine x_al1 (pc := 190) rfl rfl ?_
            refine x_al1 (pc := 191) rfl rfl ?_
            refine g_67_2 (pc := 192) (v := nI 0) rfl rfl h61 ?_
            refine x_ifN_eq (pc := 195) (t := 202) rfl rfl (by decide) (fun _ => ?_) (fun c => absurd c (by decide))
            refine x_const (pc := 202) (pc' := 203) (.int (nI 0)) rfl rfl rfl rfl ?_
            refine x_k (pc := 203) rfl rfl rfl ⟨Nat.le_of_ble_eq_true rfl, Nat.le_of_ble_eq_true rfl, Nat.le_of_ble_eq_true rfl⟩ rfl (k_114 (I := I) (A := A) (w := 0) (by decide) ?_)
            show mq 146 206 [some (.ref 67), some (.int (nI l)), some (.int t), some (.int (nI v)), some (.int (nI x)), w5, w6, w7, w8] [.int (nI 0)] (hS n u (va_up I 60 (nI 0)) A J B mk sn L xs X) _
            refine x_ifN_eq (pc := 206) (t := 213) rfl rfl (by decide) (fun _ => ?_) (fun c => absurd c (by decide))
            refine x_il1 (pc := 213) rfl rfl ?_
            refine x_ret (pc := 214) rfl rfl ?_
            exact kk of _ _ (Fr_u (Fr_refl _ _) (by decide)) (Fr_refl _ _) (mD_on hM of (Fr_up I 60 _) (Fr_refl [] A) (by decide) (by decide)) rfl
          · omega
      case pos =>
        have hfx := hw.1.1 x (by omega)
        have hWx := hw.2.1 x (by omega)
        have hnst : ¬ (dO S = true ∨ ¬ x + 1 < cn) := fun q => q.elim ho (fun q => q hxn)
        obtain ⟨co, hco⟩ : ∃ q, q = cO (dD S) (f x) (pm (dD S) f bc cn (t.toInt64 - 100) (f x)) (bc (f x)) := ⟨_, rfl⟩
        obtain ⟨tt, htt⟩ : ∃ q, q = cF (dD S) (f x) (pm (dD S) f bc cn (t.toInt64 - 100) (f x)) (bc (f x)) := ⟨_, rfl⟩
        have hco30 : co ≤ 30 := by
          rw [hco]
          exact Nat.le_trans (cO_le _ _ _ _) (sRs_30 hWx)
        have htt9 : tt.length ≤ 564 := by
          rw [htt, cF_len]
          exact cT_600 hWx _ (Nat.le_refl _)
        have htt8 : 8 ≤ tt.length := by
          rw [htt, cF_len]
          exact cT_8 _ _ _ _
        have htb : ∀ q, gB0 tt q < 256 := by
          rw [htt]
          exact gB0_by (cF_by _ _ _ _)
        refine x_il2 (pc := 40) rfl rfl ?_
        refine x_al1 (pc := 42) rfl rfl ?_
        refine x_il1 (pc := 43) rfl rfl ?_
        refine x_k (pc := 44) rfl rfl rfl ⟨Nat.le_of_ble_eq_true rfl, Nat.le_of_ble_eq_true rfl, Nat.le_of_ble_eq_true rfl⟩ rfl (k_117 (I := I) (A := A) hM.2.1 hl h61 ?_)
        show mq 146 47 [some (.ref 67), some (.int (nI l)), some (.int t), some (.int (nI v)), some (.int (nI x)), w5, w6, w7, w8] [.int (nI (cS (ow (dD S) l) 16)), .int (nI x)] (hS n u I A J B mk sn L xs X) _
        refine x_top (y := nI cn) (congrArg nI (SG_n hw.1)) ?_
        refine x_const (pc := 47) (pc' := 48) (.int (nI 1)) rfl rfl rfl rfl ?_
        refine x_isubN (pc := 48) rfl ((by omega)) ?_
        refine x_cmpN_ge (pc := 49) (t := 190) rfl rfl (by omega) (by omega) (fun c49 => ?_) (fun c49 => ?_)
        · omega
        · refine x_al1 (pc := 52) rfl rfl ?_
          refine x_il1 (pc := 53) rfl rfl ?_
          refine x_il2 (pc := 54) rfl rfl ?_
          refine x_k (pc := 56) rfl rfl rfl ⟨Nat.le_of_ble_eq_true rfl, Nat.le_of_ble_eq_true rfl, Nat.le_of_ble_eq_true rfl⟩ rfl (k_119 (I := I) (A := A) (m := x) hM.2.1 hw.1 (by omega) hl h61 ?_)
          show mq 146 59 [some (.ref 67), some (.int (nI l)), some (.int t), some (.int (nI v)), some (.int (nI x)), w5, w6, w7, w8] [.int (nI (f x))] (hS n u I A J B mk sn L xs X) _
          refine x_is2 (pc := 59) (ml' := [some (.ref 67), some (.int (nI l)), some (.int t), some (.int (nI v)), some (.int (nI x)), some (.int (nI (f x))), w6, w7, w8]) rfl rfl ?_
          refine x_al1 (pc := 61) rfl rfl ?_
          refine x_il1 (pc := 62) rfl rfl ?_
          refine x_il2 (pc := 63) rfl rfl ?_
          refine x_il1 (pc := 65) rfl rfl ?_
          refine x_k (pc := 66) rfl rfl rfl ⟨Nat.le_of_ble_eq_true rfl, Nat.le_of_ble_eq_true rfl, Nat.le_of_ble_eq_true rfl⟩ rfl (k_147 (I := I) (A := A) (D := dD S) (s := f x) (c := bc (f x)) (f := f) (bc := bc) (cn := cn) (t := t) hM.2.1 hl hw.1 hw.2.1 hfx.1 hWx h61 hfx.2.2 (fun I1 A1 f1 g1 h1 => ?_))
          show mq 146 69 [some (.ref 67), some (.int (nI l)), some (.int t), some (.int (nI v)), some (.int (nI x)), some (.int (nI (f x))), w6, w7, w8] [.int (nI (cO (dD S) (f x) (pm (dD S) f bc cn (t.toInt64 - 100) (f x)) (bc (f x))))] (hS n u I1 A1 J B mk sn L xs X) _
          refine x_top (y := nI co) (congrArg nI hco.symm) ?_
          refine x_is2 (pc := 69) (ml' := [some (.ref 67), some (.int (nI l)), some (.int t), some (.int (nI v)), some (.int (nI x)), some (.int (nI (f x))), some (.int (nI co)), w7, w8]) rfl rfl ?_
          have h1t : Tp I1 A1 tt := by
            rw [htt]
            exact h1
          have M1 : mD S I1 A1 := mD_fr hM f1 g1 (by decide) (by decide)
          rcases frN_spec (dD S) 16 0 with h5 | h5
          · show mq 146 71 [some (.ref 67), some (.int (nI l)), some (.int t), some (.int (nI v)), some (.int (nI x)), some (.int (nI (f x))), some (.int (nI co)), w7, w8] [] (hS n u I1 A1 J B mk sn L xs X) _
            refine x_al1 (pc := 71) rfl rfl ?_
            refine x_k (pc := 72) rfl rfl rfl ⟨Nat.le_of_ble_eq_true rfl, Nat.le_of_ble_eq_true rfl, Nat.le_of_ble_eq_true rfl⟩ rfl (mq_k (c_131 (I := I1) (A := A1) (D := dD S) M1.2.1) ?_)
            show mq 146 75 [some (.ref 67), some (.int (nI l)), some (.int t), some (.int (nI v)), some (.int (nI x)), some (.int (nI (f x))), some (.int (nI co)), w7, w8] [.int (frS (dD S) 16 0)] (hS n u I1 A1 J B mk sn L xs X) _
            refine x_top (y := (-1)) (h5.1) ?_
            refine x_is2 (pc := 75) (ml' := [some (.ref 67), some (.int (nI l)), some (.int t), some (.int (nI v)), some (.int (nI x)), some (.int (nI (f x))), some (.int (nI co)), some (.int (-1)), w8]) rfl rfl ?_
            refine x_al1 (pc := 77) rfl rfl ?_
            refine g_67_13 (pc := 78) (v := nI tt.length) rfl rfl h1t.1 ?_
            refine x_const (pc := 81) (pc' := 83) (.int (nI 8)) rfl rfl rfl rfl ?_
            refine x_cmpN_le (pc := 83) (t := 90) rfl rfl (by omega) (by decide) (fun c83 => ?_) (fun c83 => ?_)
            · refine x_const (pc := 90) (pc' := 91) (.int (nI 0)) rfl rfl rfl rfl ?_
              refine x_is2 (pc := 91) (ml' := [some (.ref 67), some (.int (nI l)), some (.int t), some (.int (nI v)), some (.int (nI x)), some (.int (nI (f x))), some (.int (nI co)), some (.int (-1)), some (.int (nI 0))]) rfl rfl ?_
              refine x_il2 (pc := 93) rfl rfl ?_
              refine x_ifN_ne (pc := 95) (t := 104) rfl rfl (by omega) (fun c95 => ?_) (fun c95 => ?_)
              · have hco0 : ¬ cO (dD S) (f x) (pm (dD S) f bc cn (t.toInt64 - 100) (f x)) (bc (f x)) = 0 := by rw [← hco]; omega
                refine x_al1 (pc := 104) rfl rfl ?_
                refine g_67_13 (pc := 105) (v := nI tt.length) rfl rfl h1t.1 ?_
                refine x_const (pc := 108) (pc' := 111) (.int (nI 128)) rfl rfl rfl rfl ?_
                refine x_cmpN_gt (pc := 111) (t := 124) rfl rfl (by omega) (by omega) (fun c111 => ?_) (fun c111 => ?_)
                · have ev : cl l (t.toInt64 - 100) (z + 1) S f bc cn x v = (S, f, bc, cn, v) := by
                    show (if _ then _ else if _ then _ else if _ then _ else if _ then _ else _) = _
                    rw [if_neg hnst, if_neg hco0, if_neg (by rw [← htt]; omega), if_pos (Or.inl (by rw [← htt]; omega))]
                  rw [ev] at kk
                  refine x_il1 (pc := 124) rfl rfl ?_
                  refine x_ret (pc := 125) rfl rfl ?_
                  exact kk of _ _ (Fr_cons (Fr_refl _ I) f1 (by decide)) (Fr_cons (Fr_refl _ A) g1 (by decide)) M1 ((f1 60 (by decide)).trans h60)
                · refine x_il2 (pc := 114) rfl rfl ?_
                  refine x_ifN_eq (pc := 116) (t := 126) rfl rfl (by decide) (fun _ => ?_) (fun c => absurd c (by decide))
                  refine x_il2 (pc := 126) rfl rfl ?_
                  refine x_ifN_eq (pc := 128) (t := 160) rfl rfl (by decide) (fun _ => ?_) (fun c => absurd c (by decide))
                  have ev : cl l (t.toInt64 - 100) (z + 1) S f bc cn x v = cl l (t.toInt64 - 100) z (wr1 S (owW (f x) 0)) (rmF f x) bc (cn - 1) x (v + co) := by
                    rw [hco]
                    show (if _ then _ else if _ then _ else if _ then _ else _) = _
                    rw [if_neg hnst, if_neg hco0, if_pos (by rw [← htt]; omega)]
                  refine x_al1 (pc := 160) rfl rfl ?_
                  refine x_il2 (pc := 161) rfl rfl ?_
                  refine x_const (pc := 163) (pc' := 164) (.int (nI 0)) rfl rfl rfl rfl ?_
                  refine x_k (pc := 164) rfl rfl rfl ⟨Nat.le_of_ble_eq_true rfl, Nat.le_of_ble_eq_true rfl, Nat.le_of_ble_eq_true rfl⟩ rfl (k_150 (I := I1) (A := A1) (S := S) (s := f x) (o := 0) M1 hfx.1 (by decide) (fun I4 A4 f4 g4 h4 x4 => ?_))
                  show mq 146 167 [some (.ref 67), some (.int (nI l)), some (.int t), some (.int (nI v)), some (.int (nI x)), some (.int (nI (f x))), some (.int (nI co)), some (.int (-1)), some (.int (nI 0))] [] (hS n u I4 A4 J B mk sn L xs X) _
                  refine x_il1 (pc := 167) rfl rfl ?_
                  refine x_il2 (pc := 168) rfl rfl ?_
                  refine x_iaddN (pc := 170) (c := v + co) rfl rfl ?_
                  refine x_is1 (pc := 171) (ml' := [some (.ref 67), some (.int (nI l)), some (.int t), some (.int (nI (v + co))), some (.int (nI x)), some (.int (nI (f x))), some (.int (nI co)), some (.int (-1)), some (.int (nI 0))]) rfl rfl ?_
                  refine x_il2 (pc := 172) rfl rfl ?_
                  refine x_il2 (pc := 174) rfl rfl ?_
                  refine x_ifN_eq (pc := 176) (t := 183) rfl rfl (by decide) (fun _ => ?_) (fun c => absurd c (by decide))
                  refine x_const (pc := 183) (pc' := 184) (.int (nI 0)) rfl rfl rfl rfl ?_
                  refine x_iaddN (pc := 184) (c := x + 0) rfl rfl ?_
                  refine x_is2 (pc := 185) (ml' := [some (.ref 67), some (.int (nI l)), some (.int t), some (.int (nI (v + co))), some (.int (nI (x + 0))), some (.int (nI (f x))), some (.int (nI co)), some (.int (-1)), some (.int (nI 0))]) rfl rfl ?_
                  refine x_step (pc := 187) (pc' := 40) rfl rfl rfl rfl ?_
                  have F : Fr [60, 61, 62, 63, 64, 65, 66, 67, 68, 69, 70, 71] I I4 := (Fr_cons (Fr_cons (Fr_refl _ _) f1 (by decide)) f4 (by decide))
                  have G : Fr [50, 52, 54, 55, 56] A A4 := (Fr_cons (Fr_cons (Fr_refl _ _) g1 (by decide)) g4 (by decide))
                  refine ih (v + co) (x) (cn - 1) (S := wr1 S (owW (f x) 0)) (f := rmF f x) (bc := bc) _ _ _ _ (I := I4) (A := A4) h4 ((f4 60 (by decide)).trans ((f1 60 (by decide)).trans h60)) (fun _ => by have := hcz of; omega) (by omega) (fun q => ?_) (fun o I5 A5 f5 g5 h5x x5 => ?_) (fun o I5 A5 f5 g5 h5x x5 => ?_)
                  · rw [(wr1_D q).2]
                    exact WL_cl_rm hw (by omega)
                  · have q4 : dO (wr1 S (owW (f x) 0)) = false := ne_true (fun w => by rw [cl_off w] at o; exact Bool.noConfusion (o.symm.trans w))
                    rw [ev] at kk
                    exact kk o I5 A5 (Fr_cons (Fr_cons (Fr_cons (Fr_refl _ I) f1 (by decide)) (x4 q4).1 (by decide)) f5 (by decide)) (Fr_cons (Fr_cons (Fr_cons (Fr_refl _ A) g1 (by decide)) (x4 q4).2 (by decide)) g5 (by decide)) h5x x5
                  · rw [ev] at kx
                    exact kx o I5 A5 (Fr_cons F f5 (by decide)) (Fr_cons G g5 (by decide)) h5x x5
              · have ev : cl l (t.toInt64 - 100) (z + 1) S f bc cn x v = cl l (t.toInt64 - 100) z S f bc cn (x + 1) v := by
                  show (if _ then _ else if _ then _ else _) = _
                  rw [if_neg hnst, if_pos (by rw [← hco]; omega)]
                rw [ev] at kk kx
                refine x_iincN (pc := 98) (c := 1) (ml' := [some (.ref 67), some (.int (nI l)), some (.int t), some (.int (nI v)), some (.int (nI (x + 1))), some (.int (nI (f x))), some (.int (nI co)), some (.int (-1)), some (.int (nI 0))]) rfl rfl rfl rfl ?_
                refine x_step (pc := 101) (pc' := 40) rfl rfl rfl rfl ?_
                exact ih v (x + 1) cn _ _ _ _ (I := I1) (A := A1) M1 ((f1 60 (by decide)).trans h60) (fun _ => by have := hcz of; omega) (by omega) (fun _ => hw) (fun o I2 A2 f2 g2 h2 x2 => kk o I2 A2 (Fr_cons (Fr_cons (Fr_refl _ I) f1 (by decide)) f2 (by decide)) (Fr_cons (Fr_cons (Fr_refl _ A) g1 (by decide)) g2 (by decide)) h2 x2) (fun o I2 A2 f2 g2 h2 x2 => kx o I2 A2 (Fr_cons (Fr_cons (Fr_refl _ I) f1 (by decide)) f2 (by decide)) (Fr_cons (Fr_cons (Fr_refl _ A) g1 (by decide)) g2 (by decide)) h2 x2)
            · refine x_const (pc := 86) (pc' := 87) (.int (nI 1)) rfl rfl rfl rfl ?_
              refine x_step (pc := 87) (pc' := 91) rfl rfl rfl rfl ?_
              refine x_is2 (pc := 91) (ml' := [some (.ref 67), some (.int (nI l)), some (.int t), some (.int (nI v)), some (.int (nI x)), some (.int (nI (f x))), some (.int (nI co)), some (.int (-1)), some (.int (nI 1))]) rfl rfl ?_
              refine x_il2 (pc := 93) rfl rfl ?_
              refine x_ifN_ne (pc := 95) (t := 104) rfl rfl (by omega) (fun c95 => ?_) (fun c95 => ?_)
              · have hco0 : ¬ cO (dD S) (f x) (pm (dD S) f bc cn (t.toInt64 - 100) (f x)) (bc (f x)) = 0 := by rw [← hco]; omega
                refine x_al1 (pc := 104) rfl rfl ?_
                refine g_67_13 (pc := 105) (v := nI tt.length) rfl rfl h1t.1 ?_
                refine x_const (pc := 108) (pc' := 111) (.int (nI 128)) rfl rfl rfl rfl ?_
                refine x_cmpN_gt (pc := 111) (t := 124) rfl rfl (by omega) (by omega) (fun c111 => ?_) (fun c111 => ?_)
                · have ev : cl l (t.toInt64 - 100) (z + 1) S f bc cn x v = (S, f, bc, cn, v) := by
                    show (if _ then _ else if _ then _ else if _ then _ else if _ then _ else _) = _
                    rw [if_neg hnst, if_neg hco0, if_neg (by rw [← htt]; omega), if_pos (Or.inl (by rw [← htt]; omega))]
                  rw [ev] at kk
                  refine x_il1 (pc := 124) rfl rfl ?_
                  refine x_ret (pc := 125) rfl rfl ?_
                  exact kk of _ _ (Fr_cons (Fr_refl _ I) f1 (by decide)) (Fr_cons (Fr_refl _ A) g1 (by decide)) M1 ((f1 60 (by decide)).trans h60)
                · refine x_il2 (pc := 114) rfl rfl ?_
                  refine x_ifN_eq (pc := 116) (t := 126) rfl rfl (by decide) (fun c => absurd c (by decide)) (fun _ => ?_)
                  refine x_il2 (pc := 119) rfl rfl ?_
                  refine x_if_ge (pc := 121) (t := 126) rfl rfl rfl (fun c => absurd c (by decide)) (fun _ => ?_)
                  have ev : cl l (t.toInt64 - 100) (z + 1) S f bc cn x v = (S, f, bc, cn, v) := by
                    show (if _ then _ else if _ then _ else if _ then _ else if _ then _ else _) = _
                    rw [if_neg hnst, if_neg hco0, if_neg (by rw [← htt]; omega), if_pos (Or.inr h5.1)]
                  rw [ev] at kk
                  refine x_il1 (pc := 124) rfl rfl ?_
                  refine x_ret (pc := 125) rfl rfl ?_
                  exact kk of _ _ (Fr_cons (Fr_refl _ I) f1 (by decide)) (Fr_cons (Fr_refl _ A) g1 (by decide)) M1 ((f1 60 (by decide)).trans h60)
              · have ev : cl l (t.toInt64 - 100) (z + 1) S f bc cn x v = cl l (t.toInt64 - 100) z S f bc cn (x + 1) v := by
                  show (if _ then _ else if _ then _ else _) = _
                  rw [if_neg hnst, if_pos (by rw [← hco]; omega)]
                rw [ev] at kk kx
                refine x_iincN (pc := 98) (c := 1) (ml' := [some (.ref 67), some (.int (nI l)), some (.int t), some (.int (nI v)), some (.int (nI (x + 1))), some (.int (nI (f x))), some (.int (nI co)), some (.int (-1)), some (.int (nI 1))]) rfl rfl rfl rfl ?_
                refine x_step (pc := 101) (pc' := 40) rfl rfl rfl rfl ?_
                exact ih v (x + 1) cn _ _ _ _ (I := I1) (A := A1) M1 ((f1 60 (by decide)).trans h60) (fun _ => by have := hcz of; omega) (by omega) (fun _ => hw) (fun o I2 A2 f2 g2 h2 x2 => kk o I2 A2 (Fr_cons (Fr_cons (Fr_refl _ I) f1 (by decide)) f2 (by decide)) (Fr_cons (Fr_cons (Fr_refl _ A) g1 (by decide)) g2 (by decide)) h2 x2) (fun o I2 A2 f2 g2 h2 x2 => kx o I2 A2 (Fr_cons (Fr_cons (Fr_refl _ I) f1 (by decide)) f2 (by decide)) (Fr_cons (Fr_cons (Fr_refl _ A) g1 (by decide)) g2 (by decide)) h2 x2)
          · obtain ⟨rr, hrre⟩ : ∃ q, q = frN (dD S) 16 0 := ⟨_, rfl⟩
            have hfr : frS (dD S) 16 0 = nI rr ∧ rr < 16 ∧ oB (dD S) rr = 0 := by
              rw [hrre]
              exact ⟨h5.1, by omega, h5.2.2.2⟩
            refine x_al1 (pc := 71) rfl rfl ?_
            refine x_k (pc := 72) rfl rfl rfl ⟨Nat.le_of_ble_eq_true rfl, Nat.le_of_ble_eq_true rfl, Nat.le_of_ble_eq_true rfl⟩ rfl (mq_k (c_131 (I := I1) (A := A1) (D := dD S) M1.2.1) ?_)
            show mq 146 75 [some (.ref 67), some (.int (nI l)), some (.int t), some (.int (nI v)), some (.int (nI x)), some (.int (nI (f x))), some (.int (nI co)), w7, w8] [.int (frS (dD S) 16 0)] (hS n u I1 A1 J B mk sn L xs X) _
            refine x_top (y := nI rr) (hfr.1) ?_
            refine x_is2 (pc := 75) (ml' := [some (.ref 67), some (.int (nI l)), some (.int t), some (.int (nI v)), some (.int (nI x)), some (.int (nI (f x))), some (.int (nI co)), some (.int (nI rr)), w8]) rfl rfl ?_
            refine x_al1 (pc := 77) rfl rfl ?_
            refine g_67_13 (pc := 78) (v := nI tt.length) rfl rfl h1t.1 ?_
            refine x_const (pc := 81) (pc' := 83) (.int (nI 8)) rfl rfl rfl rfl ?_
            refine x_cmpN_le (pc := 83) (t := 90) rfl rfl (by omega) (by decide) (fun c83 => ?_) (fun c83 => ?_)
            · refine x_const (pc := 90) (pc' := 91) (.int (nI 0)) rfl rfl rfl rfl ?_
              refine x_is2 (pc := 91) (ml' := [some (.ref 67), some (.int (nI l)), some (.int t), some (.int (nI v)), some (.int (nI x)), some (.int (nI (f x))), some (.int (nI co)), some (.int (nI rr)), some (.int (nI 0))]) rfl rfl ?_
              refine x_il2 (pc := 93) rfl rfl ?_
              refine x_ifN_ne (pc := 95) (t := 104) rfl rfl (by omega) (fun c95 => ?_) (fun c95 => ?_)
              · have hco0 : ¬ cO (dD S) (f x) (pm (dD S) f bc cn (t.toInt64 - 100) (f x)) (bc (f x)) = 0 := by rw [← hco]; omega
                refine x_al1 (pc := 104) rfl rfl ?_
                refine g_67_13 (pc := 105) (v := nI tt.length) rfl rfl h1t.1 ?_
                refine x_const (pc := 108) (pc' := 111) (.int (nI 128)) rfl rfl rfl rfl ?_
                refine x_cmpN_gt (pc := 111) (t := 124) rfl rfl (by omega) (by omega) (fun c111 => ?_) (fun c111 => ?_)
                · have ev : cl l (t.toInt64 - 100) (z + 1) S f bc cn x v = (S, f, bc, cn, v) := by
                    show (if _ then _ else if _ then _ else if _ then _ else if _ then _ else _) = _
                    rw [if_neg hnst, if_neg hco0, if_neg (by rw [← htt]; omega), if_pos (Or.inl (by rw [← htt]; omega))]
                  rw [ev] at kk
                  refine x_il1 (pc := 124) rfl rfl ?_
                  refine x_ret (pc := 125) rfl rfl ?_
                  exact kk of _ _ (Fr_cons (Fr_refl _ I) f1 (by decide)) (Fr_cons (Fr_refl _ A) g1 (by decide)) M1 ((f1 60 (by decide)).trans h60)
                · refine x_il2 (pc := 114) rfl rfl ?_
                  refine x_ifN_eq (pc := 116) (t := 126) rfl rfl (by decide) (fun _ => ?_) (fun c => absurd c (by decide))
                  refine x_il2 (pc := 126) rfl rfl ?_
                  refine x_ifN_eq (pc := 128) (t := 160) rfl rfl (by decide) (fun _ => ?_) (fun c => absurd c (by decide))
                  have ev : cl l (t.toInt64 - 100) (z + 1) S f bc cn x v = cl l (t.toInt64 - 100) z (wr1 S (owW (f x) 0)) (rmF f x) bc (cn - 1) x (v + co) := by
                    rw [hco]
                    show (if _ then _ else if _ then _ else if _ then _ else _) = _
                    rw [if_neg hnst, if_neg hco0, if_pos (by rw [← htt]; omega)]
                  refine x_al1 (pc := 160) rfl rfl ?_
                  refine x_il2 (pc := 161) rfl rfl ?_
                  refine x_const (pc := 163) (pc' := 164) (.int (nI 0)) rfl rfl rfl rfl ?_
                  refine x_k (pc := 164) rfl rfl rfl ⟨Nat.le_of_ble_eq_true rfl, Nat.le_of_ble_eq_true rfl, Nat.le_of_ble_eq_true rfl⟩ rfl (k_150 (I := I1) (A := A1) (S := S) (s := f x) (o := 0) M1 hfx.1 (by decide) (fun I4 A4 f4 g4 h4 x4 => ?_))
                  show mq 146 167 [some (.ref 67), some (.int (nI l)), some (.int t), some (.int (nI v)), some (.int (nI x)), some (.int (nI (f x))), some (.int (nI co)), some (.int (nI rr)), some (.int (nI 0))] [] (hS n u I4 A4 J B mk sn L xs X) _
                  refine x_il1 (pc := 167) rfl rfl ?_
                  refine x_il2 (pc := 168) rfl rfl ?_
                  refine x_iaddN (pc := 170) (c := v + co) rfl rfl ?_
                  refine x_is1 (pc := 171) (ml' := [some (.ref 67), some (.int (nI l)), some (.int t), some (.int (nI (v + co))), some (.int (nI x)), some (.int (nI (f x))), some (.int (nI co)), some (.int (nI rr)), some (.int (nI 0))]) rfl rfl ?_
                  refine x_il2 (pc := 172) rfl rfl ?_
                  refine x_il2 (pc := 174) rfl rfl ?_
                  refine x_ifN_eq (pc := 176) (t := 183) rfl rfl (by decide) (fun _ => ?_) (fun c => absurd c (by decide))
                  refine x_const (pc := 183) (pc' := 184) (.int (nI 0)) rfl rfl rfl rfl ?_
                  refine x_iaddN (pc := 184) (c := x + 0) rfl rfl ?_
                  refine x_is2 (pc := 185) (ml' := [some (.ref 67), some (.int (nI l)), some (.int t), some (.int (nI (v + co))), some (.int (nI (x + 0))), some (.int (nI (f x))), some (.int (nI co)), some (.int (nI rr)), some (.int (nI 0))]) rfl rfl ?_
                  refine x_step (pc := 187) (pc' := 40) rfl rfl rfl rfl ?_
                  have F : Fr [60, 61, 62, 63, 64, 65, 66, 67, 68, 69, 70, 71] I I4 := (Fr_cons (Fr_cons (Fr_refl _ _) f1 (by decide)) f4 (by decide))
                  have G : Fr [50, 52, 54, 55, 56] A A4 := (Fr_cons (Fr_cons (Fr_refl _ _) g1 (by decide)) g4 (by decide))
                  refine ih (v + co) (x) (cn - 1) (S := wr1 S (owW (f x) 0)) (f := rmF f x) (bc := bc) _ _ _ _ (I := I4) (A := A4) h4 ((f4 60 (by decide)).trans ((f1 60 (by decide)).trans h60)) (fun _ => by have := hcz of; omega) (by omega) (fun q => ?_) (fun o I5 A5 f5 g5 h5x x5 => ?_) (fun o I5 A5 f5 g5 h5x x5 => ?_)
                  · rw [(wr1_D q).2]
                    exact WL_cl_rm hw (by omega)
                  · have q4 : dO (wr1 S (owW (f x) 0)) = false := ne_true (fun w => by rw [cl_off w] at o; exact Bool.noConfusion (o.symm.trans w))
                    rw [ev] at kk
                    exact kk o I5 A5 (Fr_cons (Fr_cons (Fr_cons (Fr_refl _ I) f1 (by decide)) (x4 q4).1 (by decide)) f5 (by decide)) (Fr_cons (Fr_cons (Fr_cons (Fr_refl _ A) g1 (by decide)) (x4 q4).2 (by decide)) g5 (by decide)) h5x x5
                  · rw [ev] at kx
                    exact kx o I5 A5 (Fr_cons F f5 (by decide)) (Fr_cons G g5 (by decide)) h5x x5
              · have ev : cl l (t.toInt64 - 100) (z + 1) S f bc cn x v = cl l (t.toInt64 - 100) z S f bc cn (x + 1) v := by
                  show (if _ then _ else if _ then _ else _) = _
                  rw [if_neg hnst, if_pos (by rw [← hco]; omega)]
                rw [ev] at kk kx
                refine x_iincN (pc := 98) (c := 1) (ml' := [some (.ref 67), some (.int (nI l)), some (.int t), some (.int (nI v)), some (.int (nI (x + 1))), some (.int (nI (f x))), some (.int (nI co)), some (.int (nI rr)), some (.int (nI 0))]) rfl rfl rfl rfl ?_
                refine x_step (pc := 101) (pc' := 40) rfl rfl rfl rfl ?_
                exact ih v (x + 1) cn _ _ _ _ (I := I1) (A := A1) M1 ((f1 60 (by decide)).trans h60) (fun _ => by have := hcz of; omega) (by omega) (fun _ => hw) (fun o I2 A2 f2 g2 h2 x2 => kk o I2 A2 (Fr_cons (Fr_cons (Fr_refl _ I) f1 (by decide)) f2 (by decide)) (Fr_cons (Fr_cons (Fr_refl _ A) g1 (by decide)) g2 (by decide)) h2 x2) (fun o I2 A2 f2 g2 h2 x2 => kx o I2 A2 (Fr_cons (Fr_cons (Fr_refl _ I) f1 (by decide)) f2 (by decide)) (Fr_cons (Fr_cons (Fr_refl _ A) g1 (by decide)) g2 (by decide)) h2 x2)
            · refine x_const (pc := 86) (pc' := 87) (.int (nI 1)) rfl rfl rfl rfl ?_
              refine x_step (pc := 87) (pc' := 91) rfl rfl rfl rfl ?_
              refine x_is2 (pc := 91) (ml' := [some (.ref 67), some (.int (nI l)), some (.int t), some (.int (nI v)), some (.int (nI x)), some (.int (nI (f x))), some (.int (nI co)), some (.int (nI rr)), some (.int (nI 1))]) rfl rfl ?_
              refine x_il2 (pc := 93) rfl rfl ?_
              refine x_ifN_ne (pc := 95) (t := 104) rfl rfl (by omega) (fun c95 => ?_) (fun c95 => ?_)
              · have hco0 : ¬ cO (dD S) (f x) (pm (dD S) f bc cn (t.toInt64 - 100) (f x)) (bc (f x)) = 0 := by rw [← hco]; omega
                refine x_al1 (pc := 104) rfl rfl ?_
                refine g_67_13 (pc := 105) (v := nI tt.length) rfl rfl h1t.1 ?_
                refine x_const (pc := 108) (pc' := 111) (.int (nI 128)) rfl rfl rfl rfl ?_
                refine x_cmpN_gt (pc := 111) (t := 124) rfl rfl (by omega) (by omega) (fun c111 => ?_) (fun c111 => ?_)
                · have ev : cl l (t.toInt64 - 100) (z + 1) S f bc cn x v = (S, f, bc, cn, v) := by
                    show (if _ then _ else if _ then _ else if _ then _ else if _ then _ else _) = _
                    rw [if_neg hnst, if_neg hco0, if_neg (by rw [← htt]; omega), if_pos (Or.inl (by rw [← htt]; omega))]
                  rw [ev] at kk
                  refine x_il1 (pc := 124) rfl rfl ?_
                  refine x_ret (pc := 125) rfl rfl ?_
                  exact kk of _ _ (Fr_cons (Fr_refl _ I) f1 (by decide)) (Fr_cons (Fr_refl _ A) g1 (by decide)) M1 ((f1 60 (by decide)).trans h60)
                · refine x_il2 (pc := 114) rfl rfl ?_
                  refine x_ifN_eq (pc := 116) (t := 126) rfl rfl (by decide) (fun c => absurd c (by decide)) (fun _ => ?_)
                  refine x_il2 (pc := 119) rfl rfl ?_
                  refine x_ifN_ge (pc := 121) (t := 126) rfl rfl (by omega) ?_
                  refine x_il2 (pc := 126) rfl rfl ?_
                  refine x_ifN_eq (pc := 128) (t := 160) rfl rfl (by decide) (fun c => absurd c (by decide)) (fun _ => ?_)
                  refine x_al1 (pc := 131) rfl rfl ?_
                  refine x_il2 (pc := 132) rfl rfl ?_
                  refine x_const (pc := 134) (pc' := 135) (.int (nI 0)) rfl rfl rfl rfl ?_
                  refine x_al1 (pc := 135) rfl rfl ?_
                  refine g_67_13 (pc := 136) (v := nI tt.length) rfl rfl h1t.1 ?_
                  refine x_const (pc := 139) (pc' := 141) (.int (nI 31)) rfl rfl rfl rfl ?_
                  refine x_iaddN (pc := 141) (c := tt.length + 31) rfl rfl ?_
                  refine x_const (pc := 142) (pc' := 144) (.int (nI 32)) rfl rfl rfl rfl ?_
                  refine x_idivV (pc := 144) (v := nI ((tt.length + 31) / 32)) rfl (by decide) (pk_div (by omega) (by decide) (by decide)) ?_
                  refine x_const (pc := 145) (pc' := 147) (.int (nI 32)) rfl rfl rfl rfl ?_
                  refine x_imulN (pc := 147) (c := ((tt.length + 31) / 32) * 32) rfl rfl ?_
                  refine x_k (pc := 148) rfl rfl rfl ⟨Nat.le_of_ble_eq_true rfl, Nat.le_of_ble_eq_true rfl, Nat.le_of_ble_eq_true rfl⟩ rfl (k_133 (I := I1) (A := A1) (S := S) (s := rr) (f := 0) (e := up32 tt.length) (t := tt) M1 h1t htb hfr.2.1 (by unfold up32; omega) (Nat.zero_le _) (by omega) (fun I2 A2 f2 g2 h2 x2 => ?_))
                  show mq 146 151 [some (.ref 67), some (.int (nI l)), some (.int t), some (.int (nI v)), some (.int (nI x)), some (.int (nI (f x))), some (.int (nI co)), some (.int (nI rr)), some (.int (nI 1))] [] (hS n u I2 A2 J B mk sn L xs X) _
                  refine x_al1 (pc := 151) rfl rfl ?_
                  refine x_il2 (pc := 152) rfl rfl ?_
                  refine x_il1 (pc := 154) rfl rfl ?_
                  refine x_const (pc := 155) (pc' := 156) (.int (nI 1)) rfl rfl rfl rfl ?_
                  refine x_iaddN (pc := 156) (c := l + 1) rfl rfl ?_
                  refine x_k (pc := 157) rfl rfl rfl ⟨Nat.le_of_ble_eq_true rfl, Nat.le_of_ble_eq_true rfl, Nat.le_of_ble_eq_true rfl⟩ rfl (k_150 (I := I2) (A := A2) (S := wrs S (spW rr 0 (up32 tt.length) tt 4 0)) (s := rr) (o := l + 1) h2 hfr.2.1 (by omega) (fun I3 A3 f3 g3 h3 x3 => ?_))
                  show mq 146 160 [some (.ref 67), some (.int (nI l)), some (.int t), some (.int (nI v)), some (.int (nI x)), some (.int (nI (f x))), some (.int (nI co)), some (.int (nI rr)), some (.int (nI 1))] [] (hS n u I3 A3 J B mk sn L xs X) _
                  refine x_al1 (pc := 160) rfl rfl ?_
                  refine x_il2 (pc := 161) rfl rfl ?_
                  refine x_const (pc := 163) (pc' := 164) (.int (nI 0)) rfl rfl rfl rfl ?_
                  refine x_k (pc := 164) rfl rfl rfl ⟨Nat.le_of_ble_eq_true rfl, Nat.le_of_ble_eq_true rfl, Nat.le_of_ble_eq_true rfl⟩ rfl (k_150 (I := I3) (A := A3) (S := wr1 (wrs S (spW rr 0 (up32 tt.length) tt 4 0)) (owW rr (l + 1))) (s := f x) (o := 0) h3 hfx.1 (by decide) (fun I4 A4 f4 g4 h4 x4 => ?_))
                  show mq 146 167 [some (.ref 67), some (.int (nI l)), some (.int t), some (.int (nI v)), some (.int (nI x)), some (.int (nI (f x))), some (.int (nI co)), some (.int (nI rr)), some (.int (nI 1))] [] (hS n u I4 A4 J B mk sn L xs X) _
                  refine x_il1 (pc := 167) rfl rfl ?_
                  refine x_il2 (pc := 168) rfl rfl ?_
                  refine x_iaddN (pc := 170) (c := v + co) rfl rfl ?_
                  refine x_is1 (pc := 171) (ml' := [some (.ref 67), some (.int (nI l)), some (.int t), some (.int (nI (v + co))), some (.int (nI x)), some (.int (nI (f x))), some (.int (nI co)), some (.int (nI rr)), some (.int (nI 1))]) rfl rfl ?_
                  refine x_il2 (pc := 172) rfl rfl ?_
                  refine x_il2 (pc := 174) rfl rfl ?_
                  refine x_ifN_eq (pc := 176) (t := 183) rfl rfl (by decide) (fun c => absurd c (by decide)) (fun _ => ?_)
                  refine x_const (pc := 179) (pc' := 180) (.int (nI 1)) rfl rfl rfl rfl ?_
                  refine x_step (pc := 180) (pc' := 184) rfl rfl rfl rfl ?_
                  refine x_iaddN (pc := 184) (c := x + 1) rfl rfl ?_
                  refine x_is2 (pc := 185) (ml' := [some (.ref 67), some (.int (nI l)), some (.int t), some (.int (nI (v + co))), some (.int (nI (x + 1))), some (.int (nI (f x))), some (.int (nI co)), some (.int (nI rr)), some (.int (nI 1))]) rfl rfl ?_
                  refine x_step (pc := 187) (pc' := 40) rfl rfl rfl rfl ?_
                  have F : Fr [60, 61, 62, 63, 64, 65, 66, 67, 68, 69, 70, 71] I I4 := (Fr_cons (Fr_cons (Fr_cons (Fr_cons (Fr_refl _ _) f1 (by decide)) f2 (by decide)) f3 (by decide)) f4 (by decide))
                  have G : Fr [50, 52, 54, 55, 56] A A4 := (Fr_cons (Fr_cons (Fr_cons (Fr_cons (Fr_refl _ _) g1 (by decide)) g2 (by decide)) g3 (by decide)) g4 (by decide))
                  have ev : cl l (t.toInt64 - 100) (z + 1) S f bc cn x v = cl l (t.toInt64 - 100) z (wrs S (mvW rr l (f x) (cF (dD S) (f x) (pm (dD S) f bc cn (t.toInt64 - 100) (f x)) (bc (f x))))) (fun k => if k = x then rr else f k) (fun y => if y = rr then cC (dD S) (f x) (pm (dD S) f bc cn (t.toInt64 - 100) (f x)) (bc (f x)) else bc y) cn (x + 1) (v + co) := by
                    rw [hco, hrre]
                    show (if _ then _ else if _ then _ else if _ then _ else if _ then _ else _) = _
                    rw [if_neg hnst, if_neg hco0, if_neg (by rw [← htt]; omega), if_neg (fun q => q.elim (fun q => by rw [← htt] at q; omega) (fun q => nI_m1 hfr.2.1 (hfr.1.symm.trans q)))]
                  have eS : wr1 (wr1 (wrs S (spW rr 0 (up32 tt.length) tt 4 0)) (owW rr (l + 1))) (owW (f x) 0) = wrs S (mvW rr l (f x) (cF (dD S) (f x) (pm (dD S) f bc cn (t.toInt64 - 100) (f x)) (bc (f x)))) := by
                    rw [← htt]
                    unfold mvW
                    rw [wrs_app]
                    rfl
                  rw [eS] at h4 x4
                  refine ih (v + co) (x + 1) (cn) (S := wrs S (mvW rr l (f x) (cF (dD S) (f x) (pm (dD S) f bc cn (t.toInt64 - 100) (f x)) (bc (f x))))) (f := (fun k => if k = x then rr else f k)) (bc := (fun y => if y = rr then cC (dD S) (f x) (pm (dD S) f bc cn (t.toInt64 - 100) (f x)) (bc (f x)) else bc y)) _ _ _ _ (I := I4) (A := A4) h4 ((f4 60 (by decide)).trans ((f3 60 (by decide)).trans ((f2 60 (by decide)).trans ((f1 60 (by decide)).trans h60)))) (fun _ => by have := hcz of; omega) (by omega) (fun q => ?_) (fun o I5 A5 f5 g5 h5x x5 => ?_) (fun o I5 A5 f5 g5 h5x x5 => ?_)
                  · rw [(wrs_on q).2]
                    exact WL_cl_mv hw hl hxn hfr.2.1 hfr.2.2 (by rw [← htt]; omega) (by rw [← htt]; omega)
                  · have q4 : dO (wrs S (mvW rr l (f x) (cF (dD S) (f x) (pm (dD S) f bc cn (t.toInt64 - 100) (f x)) (bc (f x))))) = false := ne_true (fun w => by rw [cl_off w] at o; exact Bool.noConfusion (o.symm.trans w))
                    rw [ev] at kk
                    exact kk o I5 A5 (Fr_cons (Fr_cons (Fr_cons (Fr_cons (Fr_cons (Fr_refl _ I) f1 (by decide)) (x2 (wr1_D (wr1_D (eS ▸ q4)).1).1).1 (by decide)) (x3 (wr1_D (eS ▸ q4)).1).1 (by decide)) (x4 q4).1 (by decide)) f5 (by decide)) (Fr_cons (Fr_cons (Fr_cons (Fr_cons (Fr_cons (Fr_refl _ A) g1 (by decide)) (x2 (wr1_D (wr1_D (eS ▸ q4)).1).1).2 (by decide)) (x3 (wr1_D (eS ▸ q4)).1).2 (by decide)) (x4 q4).2 (by decide)) g5 (by decide)) h5x x5
                  · rw [ev] at kx
                    exact kx o I5 A5 (Fr_cons F f5 (by decide)) (Fr_cons G g5 (by decide)) h5x x5
              · have ev : cl l (t.toInt64 - 100) (z + 1) S f bc cn x v = cl l (t.toInt64 - 100) z S f bc cn (x + 1) v := by
                  show (if _ then _ else if _ then _ else _) = _
                  rw [if_neg hnst, if_pos (by rw [← hco]; omega)]
                rw [ev] at kk kx
                refine x_iincN (pc := 98) (c := 1) (ml' := [some (.ref 67), some (.int (nI l)), some (.int t), some (.int (nI v)), some (.int (nI (x + 1))), some (.int (nI (f x))), some (.int (nI co)), some (.int (nI rr)), some (.int (nI 1))]) rfl rfl rfl rfl ?_
                refine x_step (pc := 101) (pc' := 40) rfl rfl rfl rfl ?_
                exact ih v (x + 1) cn _ _ _ _ (I := I1) (A := A1) M1 ((f1 60 (by decide)).trans h60) (fun _ => by have := hcz of; omega) (by omega) (fun _ => hw) (fun o I2 A2 f2 g2 h2 x2 => kk o I2 A2 (Fr_cons (Fr_cons (Fr_refl _ I) f1 (by decide)) f2 (by decide)) (Fr_cons (Fr_cons (Fr_refl _ A) g1 (by decide)) g2 (by decide)) h2 x2) (fun o I2 A2 f2 g2 h2 x2 => kx o I2 A2 (Fr_cons (Fr_cons (Fr_refl _ I) f1 (by decide)) f2 (by decide)) (Fr_cons (Fr_cons (Fr_refl _ A) g1 (by decide)) g2 (by decide)) h2 x2)
set_option maxRecDepth 100000 in
set_option maxHeartbeats 4000000 in
theorem k_146 {S : DS} (hM : mD S I A) (ho : dO S = false) {l cn N : Nat} {f bc : Nat → Nat} {t : Int32} (hl2 : 2 ≤ l) (hl : l < 4) (hWL : WL (dD S) l f bc cn N) (hN : N ≤ 2 ^ 31) {Q : mO × mHp → Prop} (kk : dO (cl l (t.toInt64 - 100) 16 S f bc cn 0 0).1 = false → ∀ I' A', Fr [60, 62, 63, 65, 66, 67, 68, 71] I I' → Fr [50, 52, 54] A A' → mD (cl l (t.toInt64 - 100) 16 S f bc cn 0 0).1 I' A' → I' 60 = nI 0 → Q (.inl (some (.int (nI (cl l (t.toInt64 - 100) 16 S f bc cn 0 0).2.2.2.2))), hS n u I' A' J B mk sn L xs X)) (kx : dO (cl l (t.toInt64 - 100) 16 S f bc cn 0 0).1 = true → ∀ I' A', Fr [60, 61, 62, 63, 64, 65, 66, 67, 68, 69, 70, 71] I I' → Fr [50, 52, 54, 55, 56] A A' → mD (cl l (t.toInt64 - 100) 16 S f bc cn 0 0).1 I' A' → I' 60 = nI 1 → Q (.inl (some (.int (nI 0))), hS n u I' A' J B mk sn L xs X)) : mq 146 0 [some (.ref 67), some (.int (nI l)), some (.int t), none, none, none, none, none, none] [] (hS n u I A J B mk sn L xs X) Q := by
  have h61 : I 61 = nI 0 := by
    rw [hM.1.1, ho]
    rfl
  refine x_al1 (pc := 0) rfl rfl ?_
  refine x_al1 (pc := 1) rfl rfl ?_
  refine g_67_2 (pc := 2) (v := nI 0) rfl rfl h61 ?_
  refine x_ifN_eq (pc := 5) (t := 12) rfl rfl (by decide) (fun _ => ?_) (fun c => absurd c (by decide))
  refine x_il1 (pc := 12) rfl rfl ?_
  refine x_const (pc := 13) (pc' := 14) (.int (nI 2)) rfl rfl rfl rfl ?_
  refine x_cmpN_lt (pc := 14) (t := 22) rfl rfl (by omega) (by omega) (fun c14 => ?_) (fun c14 => ?_)
  · omega
  · refine x_il1 (pc := 17) rfl rfl ?_
    refine x_const (pc := 18) (pc' := 19) (.int (nI 3)) rfl rfl rfl rfl ?_
    refine x_cmpN_le (pc := 19) (t := 26) rfl rfl (by omega) (by omega) (fun c19 => ?_) (fun c19 => ?_)
    · refine x_const (pc := 26) (pc' := 27) (.int (nI 0)) rfl rfl rfl rfl ?_
      refine x_k (pc := 27) rfl rfl rfl ⟨Nat.le_of_ble_eq_true rfl, Nat.le_of_ble_eq_true rfl, Nat.le_of_ble_eq_true rfl⟩ rfl (k_114 (I := I) (A := A) (w := 0) (by decide) ?_)
      show mq 146 30 [some (.ref 67), some (.int (nI l)), some (.int t), none, none, none, none, none, none] [.int (nI 0)] (hS n u (va_up I 60 (nI 0)) A J B mk sn L xs X) _
      refine x_ifN_eq (pc := 30) (t := 35) rfl rfl (by decide) (fun _ => ?_) (fun c => absurd c (by decide))
      refine x_const (pc := 35) (pc' := 36) (.int (nI 0)) rfl rfl rfl rfl ?_
      refine x_is1 (pc := 36) (ml' := [some (.ref 67), some (.int (nI l)), some (.int t), some (.int (nI 0)), none, none, none, none, none]) rfl rfl ?_
      refine x_const (pc := 37) (pc' := 38) (.int (nI 0)) rfl rfl rfl rfl ?_
      refine x_is2 (pc := 38) (ml' := [some (.ref 67), some (.int (nI l)), some (.int t), some (.int (nI 0)), some (.int (nI 0)), none, none, none, none]) rfl rfl ?_
      exact l_146 (I := va_up I 60 (nI 0)) (A := A) (t := t) (by omega) hN 16 0 0 cn none none none none (mD_on hM ho (Fr_up I 60 _) (Fr_refl [] A) (by decide) (by decide)) rfl (fun _ => by have := SG_le hWL.1; omega) (by decide) (fun _ => hWL) (fun o I2 A2 f2 g2 h2 x2 => kk o I2 A2 (Fr_cons (Fr_u (Fr_refl _ I) (by decide)) f2 (by decide)) g2 h2 x2) (fun o I2 A2 f2 g2 h2 x2 => kx o I2 A2 (Fr_cons (Fr_u (Fr_refl _ I) (by decide)) f2 (by decide)) g2 h2 x2)
    · omega
end S73
