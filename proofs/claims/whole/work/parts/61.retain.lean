/-! retain: the class and the model. -/
theorem go_1 {D : Nat → Nat} {f bc : Nat → Nat} {n : Nat} {lim : Int64} (h : go D f bc n lim = true) : 1 < n := by
  unfold go at h
  rw [Bool.and_eq_true, decide_eq_true_iff] at h
  exact h.1
theorem go_0 {D : Nat → Nat} {f bc : Nat → Nat} {n : Nat} {lim : Int64} (h : ¬ 1 < n) : go D f bc n lim = false := ne_true (fun q => h (go_1 q))
section S61
variable {n u : Nat} {I : Nat → Int32} {A : Nat → Nat → Int32} {J : Int64} {B : Nat → Int64} {mk sn L : Nat} {xs : Nat → Int32} {X : Nat → mC} {D : Nat → Nat} 
set_option maxRecDepth 100000 in
set_option maxHeartbeats 4000000 in
theorem k_104x (h0 : I 0 = nI 0) {l t : Int32} (hn : 77 ≤ n ∧ n < 10000) (hu : u + 6 < 1000000) {Q : mO × mHp → Prop} (kk : Q (.inr n, hS (n + 1) (u + 6) I A J B mk sn L xs (va_up X n (.inr (9, []))))) : mq 104 0 [some (.ref 1), some (.int l), some (.int t), none, none, none, none, none] [] (hS n u I A J B mk sn L xs X) Q := by
  refine x_al1 (pc := 0) rfl rfl ?_
  refine x_k (pc := 1) rfl rfl rfl ⟨Nat.le_of_ble_eq_true rfl, Nat.le_of_ble_eq_true rfl, Nat.le_of_ble_eq_true rfl⟩ rfl (k_60x (I := I) h0 hn hu (mK_x rfl kk))
set_option maxRecDepth 100000 in
set_option maxHeartbeats 4000000 in
theorem k_104b {S : DS} (hD : kD mk S I A) (ho : dO S = false) {l t : Int32} (hx : l < 0 ∨ nI 2 ≤ l) (hn : 77 ≤ n ∧ n < 10000) (hu : u + 6 < 1000000) {Q : mO × mHp → Prop} (kk : Q (.inr n, hS (n + 1) (u + 6) I A J B mk sn L xs (va_up X n (.inr (10, []))))) : mq 104 0 [some (.ref 1), some (.int l), some (.int t), none, none, none, none, none] [] (hS n u I A J B mk sn L xs X) Q := by
  refine x_al1 (pc := 0) rfl rfl ?_
  refine x_k (pc := 1) rfl rfl rfl ⟨Nat.le_of_ble_eq_true rfl, Nat.le_of_ble_eq_true rfl, Nat.le_of_ble_eq_true rfl⟩ rfl (k_60 (I := I) (kD_1 hD ho) ?_)
  show mq 104 4 [some (.ref 1), some (.int l), some (.int t), none, none, none, none, none] [] (hS n u I A J B mk sn L xs X) _
  refine x_il1 (pc := 4) rfl rfl ?_
  refine x_if_lt (pc := 5) (t := 13) rfl rfl rfl (fun c5 => ?_) (fun c5 => ?_)
  · refine x_thr (pc := 13) rfl rfl hn hu rfl ⟨Nat.le_of_ble_eq_true rfl, Nat.le_of_ble_eq_true rfl⟩ ?_
    exact kk
  · refine x_il1 (pc := 8) rfl rfl ?_
    refine x_const (pc := 9) (pc' := 10) (.int (nI 2)) rfl rfl rfl rfl ?_
    refine x_cmp_lt (pc := 10) (t := 23) rfl rfl rfl (fun c10 => ?_) (fun c10 => ?_)
    · rcases hx with h | h
      · exact absurd h c5
      · exact absurd c10 (Int32.not_lt.mpr h)
    · refine x_thr (pc := 13) rfl rfl hn hu rfl ⟨Nat.le_of_ble_eq_true rfl, Nat.le_of_ble_eq_true rfl⟩ ?_
      exact kk
set_option maxRecDepth 100000 in
set_option maxHeartbeats 4000000 in
theorem l_104_0 {bc : Nat → Nat} {lim : Int64} {t : Int32} (hlim : (-9223372036854775808 : Int64) < lim) (hmk : mks mk sn) (hn : 77 ≤ n ∧ n < 10000) (hu : u + 6 < 1000000) {Q : mO × mHp → Prop} : ∀ (z rd gn cn : Nat) {S : DS} {f : Nat → Nat} {I : Nat → Int32} {A : Nat → Nat → Int32}, (rd + z = 16) → (cn ≤ z + 1) → (gn + z ≤ 16) → (kD mk S I A) → (dO S = false) → (SG (dD S) 0 f cn) → (∀ k, k < cn → WS (dD S) (f k) (bc (f k))) → (I 40 = nI cn) → (∀ j, j < cn → A 30 j = nI (f j)) → (I 41 = stO (dD S) f 0 cn) → (dO (rt lim bc z S f cn gn).1 = false → ∀ I' A', Fr [2, 3, 4, 5, 6, 7, 8, 9, 10, 15, 20, 21, 22, 40, 41] I I' → Fr [0, 4, 10, 11, 12, 13, 14, 30] A A' → kD mk (rt lim bc z S f cn gn).1 I' A' → I' 40 = nI (rt lim bc z S f cn gn).2.2.1 → (∀ j, j < (rt lim bc z S f cn gn).2.2.1 → A' 30 j = nI ((rt lim bc z S f cn gn).2.1 j)) → I' 41 = stO (dD (rt lim bc z S f cn gn).1) (rt lim bc z S f cn gn).2.1 0 (rt lim bc z S f cn gn).2.2.1 → Q (.inl (some (.int (nI (rt lim bc z S f cn gn).2.2.2))), hS n u I' A' J B mk sn L xs X)) → (dO (rt lim bc z S f cn gn).1 = true → ∀ I' A', Up 60 I I' → Up 50 A A' → kD mk (rt lim bc z S f cn gn).1 I' A' → Q (.inr n, hS (n + 1) (u + 6) I' A' J B mk sn L xs (va_up X n (.inr (9, []))))) → mq 104 44 [some (.ref 1), some (.int (nI 0)), some (.int t), some (.ref 13), some (.long lim), none, some (.int (nI gn)), some (.int (nI rd))] [] (hS n u I A J B mk sn L xs X) Q := by
  intro z
  induction z with
  | zero =>
    intro rd gn cn S f I A hz hcz hgz hD ho hG hW hc hsl hst kk kx
    refine x_il2 (pc := 44) rfl rfl ?_
    refine x_const (pc := 46) (pc' := 48) (.int (nI 16)) rfl rfl rfl rfl ?_
    refine x_cmpN_ge (pc := 48) (t := 103) rfl rfl (by omega) (by omega) (fun c48 => ?_) (fun c48 => ?_)
    · refine x_il2 (pc := 103) rfl rfl ?_
      refine x_ret (pc := 105) rfl rfl ?_
      exact kk ho I A (Fr_refl _ _) (Fr_refl _ _) hD hc hsl hst
    · omega
  | succ z ih =>
    intro rd gn cn S f I A hz hcz hgz hD ho hG hW hc hsl hst kk kx
    refine x_il2 (pc := 44) rfl rfl ?_
    refine x_const (pc := 46) (pc' := 48) (.int (nI 16)) rfl rfl rfl rfl ?_
    refine x_cmpN_ge (pc := 48) (t := 103) rfl rfl (by omega) (by omega) (fun c48 => ?_) (fun c48 => ?_)
    · omega
    · refine x_al1 (pc := 51) rfl rfl ?_
      refine x_al1 (pc := 52) rfl rfl ?_
      refine x_step (pc := 53) (pc' := 55) rfl rfl rfl rfl ?_
      refine x_k (pc := 55) rfl rfl rfl ⟨Nat.le_of_ble_eq_true rfl, Nat.le_of_ble_eq_true rfl, Nat.le_of_ble_eq_true rfl⟩ rfl (k_105_0 (I := I) (A := A) (D := dD S) (f := f) (bc := bc) (lim := lim) hD.2.1 (SG_le hG) (fun k hk => ⟨(hG.1 k hk).1, hW k hk⟩) hlim hc hsl (fun I1 A1 f1 g1 => ?_))
      show mq 104 58 [some (.ref 1), some (.int (nI 0)), some (.int t), some (.ref 13), some (.long lim), none, some (.int (nI gn)), some (.int (nI rd))] [.int (nI (if go (dD S) f bc cn lim = true then 1 else 0))] (hS n u I1 A1 J B mk sn L xs X) _
      refine x_ifN_eq (pc := 58) (t := 103) rfl rfl (by split <;> omega) (fun c58 => ?_) (fun c58 => ?_)
      · have hng : ¬ go (dD S) f bc cn lim = true := fun q => by rw [if_pos q] at c58; exact absurd c58 (by decide)
        have ev : rt lim bc (z + 1) S f cn gn = (S, f, cn, gn) := if_neg (fun q => hng q.1)
        rw [ev] at kk
        refine x_il2 (pc := 103) rfl rfl ?_
        refine x_ret (pc := 105) rfl rfl ?_
        exact kk ho I1 A1 (Fr_cons (Fr_refl _ _) f1 (by decide)) (Fr_cons (Fr_refl _ _) g1 (by decide)) (kD_on hD ho f1 g1 (by decide) (by decide)) ((f1 40 (by decide)).trans hc) (fun j hj => by rw [g1 30 (by decide)]; exact hsl j hj) ((f1 41 (by decide)).trans hst)
      · have hgo : go (dD S) f bc cn lim = true := Decidable.byContradiction (fun q => c58 (if_neg q))
        have h1n := go_1 hgo
        have ev : rt lim bc (z + 1) S f cn gn = rt lim bc z (wr1 S (owW (f 0) 0)) (sh f) (cn - 1) (gn + 1) := if_pos ⟨hgo, ho⟩
        refine x_al1 (pc := 61) rfl rfl ?_
        refine x_al1 (pc := 62) rfl rfl ?_
        refine g_13_1 (pc := 63) rfl rfl ?_
        refine x_const (pc := 66) (pc' := 67) (.int (nI 0)) rfl rfl rfl rfl ?_
        refine al_14 (pc := 67) (q := 0) (v := nI (f 0)) rfl rfl (by decide) (show A1 30 0 = nI (f 0) by rw [g1 30 (by decide)]; exact hsl 0 (by omega)) ?_
        refine x_const (pc := 68) (pc' := 69) (.int (nI 0)) rfl rfl rfl rfl ?_
        refine x_k (pc := 69) rfl rfl rfl ⟨Nat.le_of_ble_eq_true rfl, Nat.le_of_ble_eq_true rfl, Nat.le_of_ble_eq_true rfl⟩ rfl (k_24 (I := I1) (A := A1) (S := S) (s := f 0) (v := 0) (hG.1 0 (by omega)).1 (by decide) (kD_on hD ho f1 g1 (by decide) (by decide)) ho hmk hn hu (fun o2 I2 A2 f2 g2 h2 => ?_) (fun o2 I2 A2 f2 g2 h2 => mK_x rfl (kx (by rw [ev, rt_off o2]; exact o2) I2 A2 (Up_tr (Up_fr f1 (by decide)) f2) (Up_tr (Up_fr g1 (by decide)) g2) (by rw [ev, rt_off o2]; exact h2))))
        show mq 104 72 [some (.ref 1), some (.int (nI 0)), some (.int t), some (.ref 13), some (.long lim), none, some (.int (nI gn)), some (.int (nI rd))] [] (hS n u I2 A2 J B mk sn L xs X) _
        refine x_al1 (pc := 72) rfl rfl ?_
        refine x_const (pc := 73) (pc' := 74) (.int (nI 0)) rfl rfl rfl rfl ?_
        refine x_k (pc := 74) rfl rfl rfl ⟨Nat.le_of_ble_eq_true rfl, Nat.le_of_ble_eq_true rfl, Nat.le_of_ble_eq_true rfl⟩ rfl (k_101_0 (I := I2) (A := A2) (cn := cn) (j := 0) (f := f) (SG_le hG) (by omega) ((f2 40 (by decide)).trans ((f1 40 (by decide)).trans hc)) (fun m hm => by rw [g2 30 (by decide), g1 30 (by decide)]; exact hsl m hm) (fun A3 g3 h3 => ?_))
        show mq 104 77 [some (.ref 1), some (.int (nI 0)), some (.int t), some (.ref 13), some (.long lim), none, some (.int (nI gn)), some (.int (nI rd))] [] (hS n u (va_up I2 40 (nI (cn - 1))) A3 J B mk sn L xs X) _
        refine x_al1 (pc := 77) rfl rfl ?_
        refine x_al1 (pc := 78) rfl rfl ?_
        refine g_1_0 (pc := 79) rfl rfl ?_
        refine x_al1 (pc := 82) rfl rfl ?_
        refine g_13_1 (pc := 83) rfl rfl ?_
        refine x_const (pc := 86) (pc' := 87) (.int (nI 0)) rfl rfl rfl rfl ?_
        refine al_14 (pc := 87) (q := 0) (v := nI (f 1)) rfl rfl (by decide) ((h3 0 (by omega)).trans (congrArg nI (if_neg (Nat.not_lt_zero 0)))) ?_
        refine x_k (pc := 88) rfl rfl rfl ⟨Nat.le_of_ble_eq_true rfl, Nat.le_of_ble_eq_true rfl, Nat.le_of_ble_eq_true rfl⟩ rfl (mq_k (c_22 (I := va_up I2 40 (nI (cn - 1))) (A := A3) (D := dD (wr1 S (owW (f 0) 0))) (by rw [g3 0 (by decide)]; exact h2.2.1) (hG.1 1 (by omega)).1) ?_)
        show mq 104 91 [some (.ref 1), some (.int (nI 0)), some (.int t), some (.ref 13), some (.long lim), none, some (.int (nI gn)), some (.int (nI rd))] [.int (nI (bB (dD (wr1 S (owW (f 0) 0))) (f 1))), .ref 13] (hS n u (va_up I2 40 (nI (cn - 1))) A3 J B mk sn L xs X) _
        refine p_13_6 (pc := 91) rfl rfl ?_
        refine x_iincN (pc := 94) (c := 1) (ml' := [some (.ref 1), some (.int (nI 0)), some (.int t), some (.ref 13), some (.long lim), none, some (.int (nI (gn + 1))), some (.int (nI rd))]) rfl rfl rfl rfl ?_
        refine x_iincN (pc := 97) (c := 1) (ml' := [some (.ref 1), some (.int (nI 0)), some (.int t), some (.ref 13), some (.long lim), none, some (.int (nI (gn + 1))), some (.int (nI (rd + 1)))]) rfl rfl rfl rfl ?_
        refine x_step (pc := 100) (pc' := 44) rfl rfl rfl rfl ?_
        have eD : dD (wr1 S (owW (f 0) 0)) = dW (dD S) (128 * f 0 + 2) 1 (gB0 [0 / 2 ^ 0 % 256]) := (wr1_D o2).2
        have F : Fr [2, 3, 4, 5, 6, 7, 8, 9, 10, 15, 20, 21, 22, 40, 41] I (va_up (va_up I2 40 (nI (cn - 1))) 41 (nI (bB (dD (wr1 S (owW (f 0) 0))) (f 1)))) := (Fr_u (Fr_u (Fr_cons (Fr_cons (Fr_refl _ _) f1 (by decide)) f2 (by decide)) (by decide)) (by decide))
        have G : Fr [0, 4, 10, 11, 12, 13, 14, 30] A A3 := (Fr_cons (Fr_cons (Fr_cons (Fr_refl _ _) g1 (by decide)) g2 (by decide)) g3 (by decide))
        refine ih (rd + 1) (gn + 1) (cn - 1) (S := wr1 S (owW (f 0) 0)) (f := sh f) (I := va_up (va_up I2 40 (nI (cn - 1))) 41 (nI (bB (dD (wr1 S (owW (f 0) 0))) (f 1)))) (A := A3) (by omega) (by omega) (by omega) (kD_on (kD_on h2 o2 (Fr_up I2 40 (nI (cn - 1))) g3 (by decide) (by decide)) o2 (Fr_up _ 41 _) (Fr_refl [] A3) (by decide) (by decide)) o2 ?_ ?_ rfl (fun j hj => (h3 j hj).trans (congrArg nI (if_neg (Nat.not_lt_zero j)))) ?_ (fun o4 I4 A4 f4 g4 h4 x4 y4 z4 => ?_) (fun o4 I4 A4 f4 g4 h4 => ?_)
        · rw [eD]
          exact SG_tl _ rfl hG (by omega)
        · intro k hk
          rw [eD]
          exact ow_WS _ (hW (k + 1) (by omega))
        · show nI (bB (dD (wr1 S (owW (f 0) 0))) (f 1)) = nI (if 1 < 0 ∨ cn - 1 = 0 then 0 else bB (dD (wr1 S (owW (f 0) 0))) (sh f 0))
          rw [if_neg (by omega)]
          rfl
        · rw [← ev] at o4 h4 x4 y4 z4
          rw [ev] at x4 y4 z4 h4 o4
          rw [ev] at kk
          exact kk o4 I4 A4 (Fr_cons F f4 (by decide)) (Fr_cons G g4 (by decide)) h4 x4 y4 z4
        · rw [ev] at kx
          exact kx o4 I4 A4 (Up_tr (Up_fr F (by decide)) f4) (Up_tr (Up_fr G (by decide)) g4) h4
set_option maxRecDepth 100000 in
set_option maxHeartbeats 4000000 in
theorem k_104_0 {S : DS} (hD : kD mk S I A) (ho : dO S = false) {cn : Nat} {f bc : Nat → Nat} {t : Int32} (hmk : mks mk sn) (hn : 77 ≤ n ∧ n < 10000) (hu : u + 6 < 1000000) (hG : SG (dD S) 0 f cn) (hW : ∀ k, k < cn → WS (dD S) (f k) (bc (f k))) (hc : I 40 = nI cn) (hsl : ∀ j, j < cn → A 30 j = nI (f j)) (hst : I 41 = stO (dD S) f 0 cn) {Q : mO × mHp → Prop} (kk : dO (rt (t.toInt64 - 1000) bc 16 S f cn 0).1 = false → ∀ I' A', Fr [2, 3, 4, 5, 6, 7, 8, 9, 10, 15, 20, 21, 22, 40, 41] I I' → Fr [0, 4, 10, 11, 12, 13, 14, 30] A A' → kD mk (rt (t.toInt64 - 1000) bc 16 S f cn 0).1 I' A' → I' 40 = nI (rt (t.toInt64 - 1000) bc 16 S f cn 0).2.2.1 → (∀ j, j < (rt (t.toInt64 - 1000) bc 16 S f cn 0).2.2.1 → A' 30 j = nI ((rt (t.toInt64 - 1000) bc 16 S f cn 0).2.1 j)) → I' 41 = stO (dD (rt (t.toInt64 - 1000) bc 16 S f cn 0).1) (rt (t.toInt64 - 1000) bc 16 S f cn 0).2.1 0 (rt (t.toInt64 - 1000) bc 16 S f cn 0).2.2.1 → Q (.inl (some (.int (nI (rt (t.toInt64 - 1000) bc 16 S f cn 0).2.2.2))), hS n u I' A' J B mk sn L xs X)) (kx : dO (rt (t.toInt64 - 1000) bc 16 S f cn 0).1 = true → ∀ I' A', Up 60 I I' → Up 50 A A' → kD mk (rt (t.toInt64 - 1000) bc 16 S f cn 0).1 I' A' → Q (.inr n, hS (n + 1) (u + 6) I' A' J B mk sn L xs (va_up X n (.inr (9, []))))) : mq 104 0 [some (.ref 1), some (.int (nI 0)), some (.int t), none, none, none, none, none] [] (hS n u I A J B mk sn L xs X) Q := by
  refine x_al1 (pc := 0) rfl rfl ?_
  refine x_k (pc := 1) rfl rfl rfl ⟨Nat.le_of_ble_eq_true rfl, Nat.le_of_ble_eq_true rfl, Nat.le_of_ble_eq_true rfl⟩ rfl (k_60 (I := I) (kD_1 hD ho) ?_)
  show mq 104 4 [some (.ref 1), some (.int (nI 0)), some (.int t), none, none, none, none, none] [] (hS n u I A J B mk sn L xs X) _
  refine x_il1 (pc := 4) rfl rfl ?_
  refine x_ifN_lt (pc := 5) (t := 13) rfl rfl (by omega) ?_
  refine x_il1 (pc := 8) rfl rfl ?_
  refine x_const (pc := 9) (pc' := 10) (.int (nI 2)) rfl rfl rfl rfl ?_
  refine x_cmpN_lt (pc := 10) (t := 23) rfl rfl (by decide) (by decide) (fun _ => ?_) (fun c => absurd c (by decide))
  refine x_al1 (pc := 23) rfl rfl ?_
  refine g_1_2 (pc := 24) rfl rfl ?_
  refine x_il1 (pc := 27) rfl rfl ?_
  refine aal (pc := 28) (q := 0) (a := 13) rfl rfl (by decide) rfl ?_
  refine x_as1 (pc := 29) (ml' := [some (.ref 1), some (.int (nI 0)), some (.int t), some (.ref 13), none, none, none, none]) rfl rfl ?_
  refine x_il1 (pc := 30) rfl rfl ?_
  refine x_i2l (pc := 31) rfl rfl ?_
  refine x_const (pc := 32) (pc' := 35) (.long 1000) rfl rfl rfl rfl ?_
  refine x_lsub (pc := 35) rfl rfl ?_
  refine x_step (pc := 36) (pc' := 38) (ml' := [some (.ref 1), some (.int (nI 0)), some (.int t), some (.ref 13), some (.long (t.toInt64 - 1000)), none, none, none]) (st' := []) rfl rfl rfl rfl ?_
  refine x_const (pc := 38) (pc' := 39) (.int (nI 0)) rfl rfl rfl rfl ?_
  refine x_is2 (pc := 39) (ml' := [some (.ref 1), some (.int (nI 0)), some (.int t), some (.ref 13), some (.long (t.toInt64 - 1000)), none, some (.int (nI 0)), none]) rfl rfl ?_
  refine x_const (pc := 41) (pc' := 42) (.int (nI 0)) rfl rfl rfl rfl ?_
  refine x_is2 (pc := 42) (ml' := [some (.ref 1), some (.int (nI 0)), some (.int t), some (.ref 13), some (.long (t.toInt64 - 1000)), none, some (.int (nI 0)), some (.int (nI 0))]) rfl rfl ?_
  exact l_104_0 (bc := bc) (lim_min t 1000 (by decide) (by decide)) hmk hn hu 16 0 0 cn rfl (by have := SG_le hG; omega) (by decide) hD ho hG hW hc hsl hst kk kx
set_option maxRecDepth 100000 in
set_option maxHeartbeats 4000000 in
theorem l_104_1 {bc : Nat → Nat} {lim : Int64} {t : Int32} (hlim : (-9223372036854775808 : Int64) < lim) (hmk : mks mk sn) (hn : 77 ≤ n ∧ n < 10000) (hu : u + 6 < 1000000) {Q : mO × mHp → Prop} : ∀ (z rd gn cn : Nat) {S : DS} {f : Nat → Nat} {I : Nat → Int32} {A : Nat → Nat → Int32}, (rd + z = 16) → (cn ≤ z + 1) → (gn + z ≤ 16) → (kD mk S I A) → (dO S = false) → (SG (dD S) 1 f cn) → (∀ k, k < cn → WS (dD S) (f k) (bc (f k))) → (I 43 = nI cn) → (∀ j, j < cn → A 34 j = nI (f j)) → (I 44 = stO (dD S) f 1 cn) → (dO (rt lim bc z S f cn gn).1 = false → ∀ I' A', Fr [2, 3, 4, 5, 6, 7, 8, 9, 10, 15, 20, 21, 22, 43, 44] I I' → Fr [0, 4, 10, 11, 12, 13, 14, 34] A A' → kD mk (rt lim bc z S f cn gn).1 I' A' → I' 43 = nI (rt lim bc z S f cn gn).2.2.1 → (∀ j, j < (rt lim bc z S f cn gn).2.2.1 → A' 34 j = nI ((rt lim bc z S f cn gn).2.1 j)) → I' 44 = stO (dD (rt lim bc z S f cn gn).1) (rt lim bc z S f cn gn).2.1 1 (rt lim bc z S f cn gn).2.2.1 → Q (.inl (some (.int (nI (rt lim bc z S f cn gn).2.2.2))), hS n u I' A' J B mk sn L xs X)) → (dO (rt lim bc z S f cn gn).1 = true → ∀ I' A', Up 60 I I' → Up 50 A A' → kD mk (rt lim bc z S f cn gn).1 I' A' → Q (.inr n, hS (n + 1) (u + 6) I' A' J B mk sn L xs (va_up X n (.inr (9, []))))) → mq 104 44 [some (.ref 1), some (.int (nI 1)), some (.int t), some (.ref 18), some (.long lim), none, some (.int (nI gn)), some (.int (nI rd))] [] (hS n u I A J B mk sn L xs X) Q := by
  intro z
  induction z with
  | zero =>
    intro rd gn cn S f I A hz hcz hgz hD ho hG hW hc hsl hst kk kx
    refine x_il2 (pc := 44) rfl rfl ?_
    refine x_const (pc := 46) (pc' := 48) (.int (nI 16)) rfl rfl rfl rfl ?_
    refine x_cmpN_ge (pc := 48) (t := 103) rfl rfl (by omega) (by omega) (fun c48 => ?_) (fun c48 => ?_)
    · refine x_il2 (pc := 103) rfl rfl ?_
      refine x_ret (pc := 105) rfl rfl ?_
      exact kk ho I A (Fr_refl _ _) (Fr_refl _ _) hD hc hsl hst
    · omega
  | succ z ih =>
    intro rd gn cn S f I A hz hcz hgz hD ho hG hW hc hsl hst kk kx
    refine x_il2 (pc := 44) rfl rfl ?_
    refine x_const (pc := 46) (pc' := 48) (.int (nI 16)) rfl rfl rfl rfl ?_
    refine x_cmpN_ge (pc := 48) (t := 103) rfl rfl (by omega) (by omega) (fun c48 => ?_) (fun c48 => ?_)
    · omega
    · refine x_al1 (pc := 51) rfl rfl ?_
      refine x_al1 (pc := 52) rfl rfl ?_
      refine x_step (pc := 53) (pc' := 55) rfl rfl rfl rfl ?_
      refine x_k (pc := 55) rfl rfl rfl ⟨Nat.le_of_ble_eq_true rfl, Nat.le_of_ble_eq_true rfl, Nat.le_of_ble_eq_true rfl⟩ rfl (k_105_1 (I := I) (A := A) (D := dD S) (f := f) (bc := bc) (lim := lim) hD.2.1 (SG_le hG) (fun k hk => ⟨(hG.1 k hk).1, hW k hk⟩) hlim hc hsl (fun I1 A1 f1 g1 => ?_))
      show mq 104 58 [some (.ref 1), some (.int (nI 1)), some (.int t), some (.ref 18), some (.long lim), none, some (.int (nI gn)), some (.int (nI rd))] [.int (nI (if go (dD S) f bc cn lim = true then 1 else 0))] (hS n u I1 A1 J B mk sn L xs X) _
      refine x_ifN_eq (pc := 58) (t := 103) rfl rfl (by split <;> omega) (fun c58 => ?_) (fun c58 => ?_)
      · have hng : ¬ go (dD S) f bc cn lim = true := fun q => by rw [if_pos q] at c58; exact absurd c58 (by decide)
        have ev : rt lim bc (z + 1) S f cn gn = (S, f, cn, gn) := if_neg (fun q => hng q.1)
        rw [ev] at kk
        refine x_il2 (pc := 103) rfl rfl ?_
        refine x_ret (pc := 105) rfl rfl ?_
        exact kk ho I1 A1 (Fr_cons (Fr_refl _ _) f1 (by decide)) (Fr_cons (Fr_refl _ _) g1 (by decide)) (kD_on hD ho f1 g1 (by decide) (by decide)) ((f1 43 (by decide)).trans hc) (fun j hj => by rw [g1 34 (by decide)]; exact hsl j hj) ((f1 44 (by decide)).trans hst)
      · have hgo : go (dD S) f bc cn lim = true := Decidable.byContradiction (fun q => c58 (if_neg q))
        have h1n := go_1 hgo
        have ev : rt lim bc (z + 1) S f cn gn = rt lim bc z (wr1 S (owW (f 0) 0)) (sh f) (cn - 1) (gn + 1) := if_pos ⟨hgo, ho⟩
        refine x_al1 (pc := 61) rfl rfl ?_
        refine x_al1 (pc := 62) rfl rfl ?_
        refine g_18_1 (pc := 63) rfl rfl ?_
        refine x_const (pc := 66) (pc' := 67) (.int (nI 0)) rfl rfl rfl rfl ?_
        refine al_19 (pc := 67) (q := 0) (v := nI (f 0)) rfl rfl (by decide) (show A1 34 0 = nI (f 0) by rw [g1 34 (by decide)]; exact hsl 0 (by omega)) ?_
        refine x_const (pc := 68) (pc' := 69) (.int (nI 0)) rfl rfl rfl rfl ?_
        refine x_k (pc := 69) rfl rfl rfl ⟨Nat.le_of_ble_eq_true rfl, Nat.le_of_ble_eq_true rfl, Nat.le_of_ble_eq_true rfl⟩ rfl (k_24 (I := I1) (A := A1) (S := S) (s := f 0) (v := 0) (hG.1 0 (by omega)).1 (by decide) (kD_on hD ho f1 g1 (by decide) (by decide)) ho hmk hn hu (fun o2 I2 A2 f2 g2 h2 => ?_) (fun o2 I2 A2 f2 g2 h2 => mK_x rfl (kx (by rw [ev, rt_off o2]; exact o2) I2 A2 (Up_tr (Up_fr f1 (by decide)) f2) (Up_tr (Up_fr g1 (by decide)) g2) (by rw [ev, rt_off o2]; exact h2))))
        show mq 104 72 [some (.ref 1), some (.int (nI 1)), some (.int t), some (.ref 18), some (.long lim), none, some (.int (nI gn)), some (.int (nI rd))] [] (hS n u I2 A2 J B mk sn L xs X) _
        refine x_al1 (pc := 72) rfl rfl ?_
        refine x_const (pc := 73) (pc' := 74) (.int (nI 0)) rfl rfl rfl rfl ?_
        refine x_k (pc := 74) rfl rfl rfl ⟨Nat.le_of_ble_eq_true rfl, Nat.le_of_ble_eq_true rfl, Nat.le_of_ble_eq_true rfl⟩ rfl (k_101_1 (I := I2) (A := A2) (cn := cn) (j := 0) (f := f) (SG_le hG) (by omega) ((f2 43 (by decide)).trans ((f1 43 (by decide)).trans hc)) (fun m hm => by rw [g2 34 (by decide), g1 34 (by decide)]; exact hsl m hm) (fun A3 g3 h3 => ?_))
        show mq 104 77 [some (.ref 1), some (.int (nI 1)), some (.int t), some (.ref 18), some (.long lim), none, some (.int (nI gn)), some (.int (nI rd))] [] (hS n u (va_up I2 43 (nI (cn - 1))) A3 J B mk sn L xs X) _
        refine x_al1 (pc := 77) rfl rfl ?_
        refine x_al1 (pc := 78) rfl rfl ?_
        refine g_1_0 (pc := 79) rfl rfl ?_
        refine x_al1 (pc := 82) rfl rfl ?_
        refine g_18_1 (pc := 83) rfl rfl ?_
        refine x_const (pc := 86) (pc' := 87) (.int (nI 0)) rfl rfl rfl rfl ?_
        refine al_19 (pc := 87) (q := 0) (v := nI (f 1)) rfl rfl (by decide) ((h3 0 (by omega)).trans (congrArg nI (if_neg (Nat.not_lt_zero 0)))) ?_
        refine x_k (pc := 88) rfl rfl rfl ⟨Nat.le_of_ble_eq_true rfl, Nat.le_of_ble_eq_true rfl, Nat.le_of_ble_eq_true rfl⟩ rfl (mq_k (c_22 (I := va_up I2 43 (nI (cn - 1))) (A := A3) (D := dD (wr1 S (owW (f 0) 0))) (by rw [g3 0 (by decide)]; exact h2.2.1) (hG.1 1 (by omega)).1) ?_)
        show mq 104 91 [some (.ref 1), some (.int (nI 1)), some (.int t), some (.ref 18), some (.long lim), none, some (.int (nI gn)), some (.int (nI rd))] [.int (nI (bB (dD (wr1 S (owW (f 0) 0))) (f 1))), .ref 18] (hS n u (va_up I2 43 (nI (cn - 1))) A3 J B mk sn L xs X) _
        refine p_18_6 (pc := 91) rfl rfl ?_
        refine x_iincN (pc := 94) (c := 1) (ml' := [some (.ref 1), some (.int (nI 1)), some (.int t), some (.ref 18), some (.long lim), none, some (.int (nI (gn + 1))), some (.int (nI rd))]) rfl rfl rfl rfl ?_
        refine x_iincN (pc := 97) (c := 1) (ml' := [some (.ref 1), some (.int (nI 1)), some (.int t), some (.ref 18), some (.long lim), none, some (.int (nI (gn + 1))), some (.int (nI (rd + 1)))]) rfl rfl rfl rfl ?_
        refine x_step (pc := 100) (pc' := 44) rfl rfl rfl rfl ?_
        have eD : dD (wr1 S (owW (f 0) 0)) = dW (dD S) (128 * f 0 + 2) 1 (gB0 [0 / 2 ^ 0 % 256]) := (wr1_D o2).2
        have F : Fr [2, 3, 4, 5, 6, 7, 8, 9, 10, 15, 20, 21, 22, 43, 44] I (va_up (va_up I2 43 (nI (cn - 1))) 44 (nI (bB (dD (wr1 S (owW (f 0) 0))) (f 1)))) := (Fr_u (Fr_u (Fr_cons (Fr_cons (Fr_refl _ _) f1 (by decide)) f2 (by decide)) (by decide)) (by decide))
        have G : Fr [0, 4, 10, 11, 12, 13, 14, 34] A A3 := (Fr_cons (Fr_cons (Fr_cons (Fr_refl _ _) g1 (by decide)) g2 (by decide)) g3 (by decide))
        refine ih (rd + 1) (gn + 1) (cn - 1) (S := wr1 S (owW (f 0) 0)) (f := sh f) (I := va_up (va_up I2 43 (nI (cn - 1))) 44 (nI (bB (dD (wr1 S (owW (f 0) 0))) (f 1)))) (A := A3) (by omega) (by omega) (by omega) (kD_on (kD_on h2 o2 (Fr_up I2 43 (nI (cn - 1))) g3 (by decide) (by decide)) o2 (Fr_up _ 44 _) (Fr_refl [] A3) (by decide) (by decide)) o2 ?_ ?_ rfl (fun j hj => (h3 j hj).trans (congrArg nI (if_neg (Nat.not_lt_zero j)))) ?_ (fun o4 I4 A4 f4 g4 h4 x4 y4 z4 => ?_) (fun o4 I4 A4 f4 g4 h4 => ?_)
        · rw [eD]
          exact SG_tl _ rfl hG (by omega)
        · intro k hk
          rw [eD]
          exact ow_WS _ (hW (k + 1) (by omega))
        · show nI (bB (dD (wr1 S (owW (f 0) 0))) (f 1)) = nI (if 1 < 1 ∨ cn - 1 = 0 then 0 else bB (dD (wr1 S (owW (f 0) 0))) (sh f 0))
          rw [if_neg (by omega)]
          rfl
        · rw [← ev] at o4 h4 x4 y4 z4
          rw [ev] at x4 y4 z4 h4 o4
          rw [ev] at kk
          exact kk o4 I4 A4 (Fr_cons F f4 (by decide)) (Fr_cons G g4 (by decide)) h4 x4 y4 z4
        · rw [ev] at kx
          exact kx o4 I4 A4 (Up_tr (Up_fr F (by decide)) f4) (Up_tr (Up_fr G (by decide)) g4) h4
set_option maxRecDepth 100000 in
set_option maxHeartbeats 4000000 in
theorem k_104_1 {S : DS} (hD : kD mk S I A) (ho : dO S = false) {cn : Nat} {f bc : Nat → Nat} {t : Int32} (hmk : mks mk sn) (hn : 77 ≤ n ∧ n < 10000) (hu : u + 6 < 1000000) (hG : SG (dD S) 1 f cn) (hW : ∀ k, k < cn → WS (dD S) (f k) (bc (f k))) (hc : I 43 = nI cn) (hsl : ∀ j, j < cn → A 34 j = nI (f j)) (hst : I 44 = stO (dD S) f 1 cn) {Q : mO × mHp → Prop} (kk : dO (rt (t.toInt64 - 1000) bc 16 S f cn 0).1 = false → ∀ I' A', Fr [2, 3, 4, 5, 6, 7, 8, 9, 10, 15, 20, 21, 22, 43, 44] I I' → Fr [0, 4, 10, 11, 12, 13, 14, 34] A A' → kD mk (rt (t.toInt64 - 1000) bc 16 S f cn 0).1 I' A' → I' 43 = nI (rt (t.toInt64 - 1000) bc 16 S f cn 0).2.2.1 → (∀ j, j < (rt (t.toInt64 - 1000) bc 16 S f cn 0).2.2.1 → A' 34 j = nI ((rt (t.toInt64 - 1000) bc 16 S f cn 0).2.1 j)) → I' 44 = stO (dD (rt (t.toInt64 - 1000) bc 16 S f cn 0).1) (rt (t.toInt64 - 1000) bc 16 S f cn 0).2.1 1 (rt (t.toInt64 - 1000) bc 16 S f cn 0).2.2.1 → Q (.inl (some (.int (nI (rt (t.toInt64 - 1000) bc 16 S f cn 0).2.2.2))), hS n u I' A' J B mk sn L xs X)) (kx : dO (rt (t.toInt64 - 1000) bc 16 S f cn 0).1 = true → ∀ I' A', Up 60 I I' → Up 50 A A' → kD mk (rt (t.toInt64 - 1000) bc 16 S f cn 0).1 I' A' → Q (.inr n, hS (n + 1) (u + 6) I' A' J B mk sn L xs (va_up X n (.inr (9, []))))) : mq 104 0 [some (.ref 1), some (.int (nI 1)), some (.int t), none, none, none, none, none] [] (hS n u I A J B mk sn L xs X) Q := by
  refine x_al1 (pc := 0) rfl rfl ?_
  refine x_k (pc := 1) rfl rfl rfl ⟨Nat.le_of_ble_eq_true rfl, Nat.le_of_ble_eq_true rfl, Nat.le_of_ble_eq_true rfl⟩ rfl (k_60 (I := I) (kD_1 hD ho) ?_)
  show mq 104 4 [some (.ref 1), some (.int (nI 1)), some (.int t), none, none, none, none, none] [] (hS n u I A J B mk sn L xs X) _
  refine x_il1 (pc := 4) rfl rfl ?_
  refine x_ifN_lt (pc := 5) (t := 13) rfl rfl (by omega) ?_
  refine x_il1 (pc := 8) rfl rfl ?_
  refine x_const (pc := 9) (pc' := 10) (.int (nI 2)) rfl rfl rfl rfl ?_
  refine x_cmpN_lt (pc := 10) (t := 23) rfl rfl (by decide) (by decide) (fun _ => ?_) (fun c => absurd c (by decide))
  refine x_al1 (pc := 23) rfl rfl ?_
  refine g_1_2 (pc := 24) rfl rfl ?_
  refine x_il1 (pc := 27) rfl rfl ?_
  refine aal (pc := 28) (q := 1) (a := 18) rfl rfl (by decide) rfl ?_
  refine x_as1 (pc := 29) (ml' := [some (.ref 1), some (.int (nI 1)), some (.int t), some (.ref 18), none, none, none, none]) rfl rfl ?_
  refine x_il1 (pc := 30) rfl rfl ?_
  refine x_i2l (pc := 31) rfl rfl ?_
  refine x_const (pc := 32) (pc' := 35) (.long 1000) rfl rfl rfl rfl ?_
  refine x_lsub (pc := 35) rfl rfl ?_
  refine x_step (pc := 36) (pc' := 38) (ml' := [some (.ref 1), some (.int (nI 1)), some (.int t), some (.ref 18), some (.long (t.toInt64 - 1000)), none, none, none]) (st' := []) rfl rfl rfl rfl ?_
  refine x_const (pc := 38) (pc' := 39) (.int (nI 0)) rfl rfl rfl rfl ?_
  refine x_is2 (pc := 39) (ml' := [some (.ref 1), some (.int (nI 1)), some (.int t), some (.ref 18), some (.long (t.toInt64 - 1000)), none, some (.int (nI 0)), none]) rfl rfl ?_
  refine x_const (pc := 41) (pc' := 42) (.int (nI 0)) rfl rfl rfl rfl ?_
  refine x_is2 (pc := 42) (ml' := [some (.ref 1), some (.int (nI 1)), some (.int t), some (.ref 18), some (.long (t.toInt64 - 1000)), none, some (.int (nI 0)), some (.int (nI 0))]) rfl rfl ?_
  exact l_104_1 (bc := bc) (lim_min t 1000 (by decide) (by decide)) hmk hn hu 16 0 0 cn rfl (by have := SG_le hG; omega) (by decide) hD ho hG hW hc hsl hst kk kx
end S61
