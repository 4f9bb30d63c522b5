/-! A log is read again: the class. -/
/-- what is known of the producers: sequence, count, offset -/
abbrev KT : Type := Int32 × Nat × Int32
def ln1 (D : Nat → Nat) (b q : Nat) (a : Nat → KT) : Nat → KT := fun p => if bP D q < 8 ∧ p = bP D q then (bS D q, bN D q, oR D b q 0) else a p
def lnS (D : Nat → Nat) (s : Nat) : Nat → Nat → (Nat → KT) → Nat → KT
  | 0, _, a => a
  | z + 1, j, a => lnS D s z (j + 1) (ln1 D (bB D s) (sb D s j) a)
def lnL (D : Nat → Nat) (f bc : Nat → Nat) : Nat → Nat → (Nat → KT) → Nat → KT
  | 0, _, a => a
  | z + 1, k, a => lnL D f bc z (k + 1) (lnS D (f k) (bc (f k)) 0 a)
/-- what was committed: a batch, a slot, a log -/
def cm1 (D : Nat → Nat) (q : Nat) : Nat → Nat → (Nat → Int32) → Nat → Int32
  | 0, _, c => c
  | z + 1, k, c => cm1 D q z (k + 1) (upd c (uN (kR D q k)) (vR D q k))
def cmS (D : Nat → Nat) (s : Nat) : Nat → Nat → (Nat → Int32) → Nat → Int32
  | 0, _, c => c
  | z + 1, j, c => cmS D s z (j + 1) (cm1 D (sb D s j) (bN D (sb D s j)) 0 c)
def cmL (D : Nat → Nat) (f bc : Nat → Nat) : Nat → Nat → (Nat → Int32) → Nat → Int32
  | 0, _, c => c
  | z + 1, k, c => cmL D f bc z (k + 1) (cmS D (f k) (bc (f k)) 0 c)
def KC (i : Nat) (A : Nat → Nat → Int32) (a : Nat → KT) : Prop := ∀ p, p < 8 → A (32 + 4 * i) p = nI (a p).2.1 ∧ (¬ (a p).2.1 = 0 → A (31 + 4 * i) p = (a p).1 ∧ A (33 + 4 * i) p = (a p).2.2)
theorem KC_fr {i : Nat} {S : List Nat} {A A' : Nat → Nat → Int32} {a : Nat → KT} (h : KC i A a) (g : Fr S A A') (hs : 31 + 4 * i ∉ S ∧ 32 + 4 * i ∉ S ∧ 33 + 4 * i ∉ S) : KC i A' a := fun p hp => by
  rw [g _ hs.1, g _ hs.2.1, g _ hs.2.2]
  exact h p hp
theorem KC_s {i p0 m : Nat} {A A' : Nat → Nat → Int32} {a a' : Nat → KT} {s o : Int32} (h : KC i A a) (hp0 : p0 < 8) (e1 : A' (31 + 4 * i) = upd (A (31 + 4 * i)) p0 s) (e2 : A' (32 + 4 * i) = upd (A (32 + 4 * i)) p0 (nI m)) (e3 : A' (33 + 4 * i) = upd (A (33 + 4 * i)) p0 o) (ha : ∀ p, a' p = if p = p0 then (s, m, o) else a p) : KC i A' a' := fun p hp => by
  rw [e1, e2, e3, ha p]
  by_cases h1 : p = p0
  · subst h1
    rw [if_pos rfl]
    exact ⟨pk_us, fun _ => ⟨pk_us, pk_us⟩⟩
  · rw [if_neg h1, pk_un h1, pk_un h1, pk_un h1]
    exact h p hp
section S74
variable {n u : Nat} {I : Nat → Int32} {A : Nat → Nat → Int32} {J : Int64} {B : Nat → Int64} {mk sn L : Nat} {xs : Nat → Int32} {X : Nat → mC} {D : Nat → Nat} 
set_option maxRecDepth 100000 in
set_option maxHeartbeats 4000000 in
theorem l_45_0 {b q : Nat} (hm : bN D q ≤ 4) {Q : mO × mHp → Prop} : ∀ (z k : Nat) (w5 : Option Value) {I : Nat → Int32} {A : Nat → Nat → Int32}, (k + z = bN D q) → (RB I A D b q) → (∀ I' A' w', Fr [42] I I' → Fr [] A A' → I' 42 = (if z = 0 then I 42 else oR D b q (bN D q - 1) + 1) → mq 45 93 [some (.ref 1), some (.ref 13), some (.ref 5), some (.ref 6), some (.int (nI (bN D q))), w'] [] (hS n u I' A' J B mk sn L xs X) Q) → mq 45 19 [some (.ref 1), some (.ref 13), some (.ref 5), some (.ref 6), some (.int (nI k)), w5] [] (hS n u I A J B mk sn L xs X) Q := by
  intro z
  induction z with
  | zero =>
    intro k w5 I A hz hR kk
    refine x_il2 (pc := 19) rfl rfl ?_
    refine x_al1 (pc := 21) rfl rfl ?_
    refine g_6_5 (pc := 22) (v := nI (bN D q)) rfl rfl hR.2.2.1 ?_
    refine x_cmpN_ge (pc := 25) (t := 93) rfl rfl (by omega) (by omega) (fun c25 => ?_) (fun c25 => ?_)
    · rw [show k = bN D q by omega]
      exact kk I A w5 (Fr_refl _ _) (Fr_refl _ _) rfl
    · omega
  | succ z ih =>
    intro k w5 I A hz hR kk
    refine x_il2 (pc := 19) rfl rfl ?_
    refine x_al1 (pc := 21) rfl rfl ?_
    refine g_6_5 (pc := 22) (v := nI (bN D q)) rfl rfl hR.2.2.1 ?_
    refine x_cmpN_ge (pc := 25) (t := 93) rfl rfl (by omega) (by omega) (fun c25 => ?_) (fun c25 => ?_)
    · omega
    · refine x_al1 (pc := 28) rfl rfl ?_
      refine x_al1 (pc := 29) rfl rfl ?_
      refine g_6_0 (pc := 30) rfl rfl ?_
      refine x_il2 (pc := 33) rfl rfl ?_
      refine al_7 (pc := 35) (q := k) (v := oR D b q k) rfl rfl (by omega) ((hR.2.2.2 k (by omega)).1) ?_
      refine x_const (pc := 36) (pc' := 37) (.int (nI 1)) rfl rfl rfl rfl ?_
      refine x_iadd (pc := 37) rfl rfl ?_
      refine p_13_7 (pc := 38) rfl rfl ?_
      refine x_al1 (pc := 41) rfl rfl ?_
      refine g_6_2 (pc := 42) rfl rfl ?_
      refine x_il2 (pc := 45) rfl rfl ?_
      refine al_9 (pc := 47) (q := k) (v := kR D q k) rfl rfl (by omega) ((hR.2.2.2 k (by omega)).2.2.1) ?_
      refine x_is2 (pc := 48) (ml' := [some (.ref 1), some (.ref 13), some (.ref 5), some (.ref 6), some (.int (nI k)), some (.int (kR D q k))]) rfl rfl ?_
      refine x_al1 (pc := 50) rfl rfl ?_
      refine g_13_0 (pc := 51) rfl rfl ?_
      refine x_const (pc := 54) (pc' := 55) (.int (nI 3)) rfl rfl rfl rfl ?_
      refine x_cmpN_ne (pc := 55) (t := 87) rfl rfl (by decide) (by decide) (fun _ => ?_) (fun c => absurd c (by decide))
      refine x_iincN (pc := 87) (c := 1) (ml' := [some (.ref 1), some (.ref 13), some (.ref 5), some (.ref 6), some (.int (nI (k + 1))), some (.int (kR D q k))]) rfl rfl rfl rfl ?_
      refine x_step (pc := 90) (pc' := 19) rfl rfl rfl rfl ?_
      refine ih (k + 1) _ (I := va_up I 42 ((oR D b q k) + (nI 1))) (A := A) (by omega) (RB_fr hR (show Fr [42] I (va_up I 42 ((oR D b q k) + (nI 1))) from (Fr_u (Fr_refl _ _) (by decide))) (show Fr [] A (A) from (Fr_refl _ _)) (by decide) (by decide)) (fun I2 A2 w2 f2 g2 y2 => kk I2 A2 w2 (Fr_cons (Fr_u (Fr_refl _ _) (by decide)) f2 (by decide)) (Fr_cons (Fr_refl _ _) g2 (by decide)) ?_)
      rw [y2, if_neg (Nat.succ_ne_zero z)]
      by_cases h0 : z = 0
      · rw [if_pos h0, show bN D q - 1 = k by omega]
        rfl
      · rw [if_neg h0]
set_option maxRecDepth 100000 in
set_option maxHeartbeats 4000000 in
theorem k_45_0 {b q : Nat} {a : Nat → KT} (hm1 : 1 ≤ bN D q) (hm : bN D q ≤ 4) (hR : RB I A D b q) (hpb : bP D q < 256) (hK : KC 0 A a) {Q : mO × mHp → Prop} (kk : ∀ I' A', Fr [42] I I' → Fr [31, 32, 33] A A' → I' 42 = oR D b q (bN D q - 1) + 1 → KC 0 A' (ln1 D b q a) → Q (.inl none, hS n u I' A' J B mk sn L xs X)) : mq 45 0 [some (.ref 1), some (.ref 13), some (.ref 5), none, none, none] [] (hS n u I A J B mk sn L xs X) Q := by
  by_cases hp : bP D q < 8
  · refine x_al1 (pc := 0) rfl rfl ?_
    refine g_5_0 (pc := 1) rfl rfl ?_
    refine x_as1 (pc := 4) (ml' := [some (.ref 1), some (.ref 13), some (.ref 5), some (.ref 6), none, none]) rfl rfl ?_
    refine x_al1 (pc := 5) rfl rfl ?_
    refine x_al1 (pc := 6) rfl rfl ?_
    refine x_al1 (pc := 7) rfl rfl ?_
    refine g_6_0 (pc := 8) rfl rfl ?_
    refine x_const (pc := 11) (pc' := 12) (.int (nI 0)) rfl rfl rfl rfl ?_
    refine al_7 (pc := 12) (q := 0) (v := oR D b q 0) rfl rfl (by decide) ((hR.2.2.2 0 (by omega)).1) ?_
    refine x_k (pc := 13) rfl rfl rfl ⟨Nat.le_of_ble_eq_true rfl, Nat.le_of_ble_eq_true rfl, Nat.le_of_ble_eq_true rfl⟩ rfl (k_46_0_0 (I := I) (A := A) (p := bP D q) (m := bN D q) (q := bS D q) (o := oR D b q 0) hR.1 hp hR.2.1 hR.2.2.1 (fun A1 g1 u1 v1 w1 => ?_))
    show mq 45 16 [some (.ref 1), some (.ref 13), some (.ref 5), some (.ref 6), none, none] [] (hS n u I A1 J B mk sn L xs X) _
    refine x_const (pc := 16) (pc' := 17) (.int (nI 0)) rfl rfl rfl rfl ?_
    refine x_is2 (pc := 17) (ml' := [some (.ref 1), some (.ref 13), some (.ref 5), some (.ref 6), some (.int (nI 0)), none]) rfl rfl ?_
    refine l_45_0 (I := I) (A := A1) (b := b) (q := q) hm (bN D q) 0 none (Nat.zero_add _) (RB_fr hR (Fr_refl [] I) g1 (by decide) (by decide)) (fun I2 A2 w2 f2 g2 y2 => ?_)
    rw [if_neg (by omega)] at y2
    refine x_ret (pc := 93) rfl rfl ?_
    exact kk I2 A2 (Fr_cons (Fr_refl _ _) f2 (by decide)) (Fr_cons (Fr_cons (Fr_refl _ _) g1 (by decide)) g2 (by decide)) y2 (KC_fr (KC_s hK hp u1 v1 w1 (fun p => by unfold ln1; by_cases h9 : p = bP D q; rw [if_pos ⟨hp, h9⟩, if_pos h9]; rw [if_neg (fun w => h9 w.2), if_neg h9])) g2 (by decide))
  · refine x_al1 (pc := 0) rfl rfl ?_
    refine g_5_0 (pc := 1) rfl rfl ?_
    refine x_as1 (pc := 4) (ml' := [some (.ref 1), some (.ref 13), some (.ref 5), some (.ref 6), none, none]) rfl rfl ?_
    refine x_al1 (pc := 5) rfl rfl ?_
    refine x_al1 (pc := 6) rfl rfl ?_
    refine x_al1 (pc := 7) rfl rfl ?_
    refine g_6_0 (pc := 8) rfl rfl ?_
    refine x_const (pc := 11) (pc' := 12) (.int (nI 0)) rfl rfl rfl rfl ?_
    refine al_7 (pc := 12) (q := 0) (v := oR D b q 0) rfl rfl (by decide) ((hR.2.2.2 0 (by omega)).1) ?_
    refine x_k (pc := 13) rfl rfl rfl ⟨Nat.le_of_ble_eq_true rfl, Nat.le_of_ble_eq_true rfl, Nat.le_of_ble_eq_true rfl⟩ rfl (k_46n_0_0 (I := I) (A := A) (p := bP D q) (o := oR D b q 0) hR.1 ⟨Nat.le_of_not_lt hp, hpb⟩ ?_)
    show mq 45 16 [some (.ref 1), some (.ref 13), some (.ref 5), some (.ref 6), none, none] [] (hS n u I A J B mk sn L xs X) _
    refine x_const (pc := 16) (pc' := 17) (.int (nI 0)) rfl rfl rfl rfl ?_
    refine x_is2 (pc := 17) (ml' := [some (.ref 1), some (.ref 13), some (.ref 5), some (.ref 6), some (.int (nI 0)), none]) rfl rfl ?_
    refine l_45_0 (I := I) (A := A) (b := b) (q := q) hm (bN D q) 0 none (Nat.zero_add _) hR (fun I2 A2 w2 f2 g2 y2 => ?_)
    rw [if_neg (by omega)] at y2
    refine x_ret (pc := 93) rfl rfl ?_
    exact kk I2 A2 (Fr_cons (Fr_refl _ _) f2 (by decide)) (Fr_cons (Fr_refl _ _) g2 (by decide)) y2 (KC_fr (by rw [show ln1 D b q a = a from funext (fun p => if_neg (fun w => hp w.1))]; exact hK) g2 (by decide))
set_option maxRecDepth 100000 in
set_option maxHeartbeats 4000000 in
theorem l_35b_0 {x s c : Nat} (hs : s < 16) (hW : WS D s c) {Q : mO × mHp → Prop} : ∀ (z j e : Nat) (a : Nat → KT) {I : Nat → Int32} {A : Nat → Nat → Int32}, (DK (A 0) D) → (j + z = c) → (RS I D s j e) → (e < 1000) → (I 42 = nxB D s j) → (KC 0 A a) → (∀ I' A' y, Fr [7, 8, 9, 10, 20, 21, 22, 42] I I' → Fr [10, 11, 12, 13, 14, 31, 32, 33] A A' → I' 42 = nxB D s c → KC 0 A' (lnS D s z j a) → mq 35 79 [some (.ref 1), some (.ref 13), some (.int (nI x)), some (.int (nI y))] [] (hS n u I' A' J B mk sn L xs X) Q) → mq 35 44 [some (.ref 1), some (.ref 13), some (.int (nI x)), some (.int (nI j))] [] (hS n u I A J B mk sn L xs X) Q := by
  intro z
  induction z with
  | zero =>
    intro j e a I A h hz hR he hnx hK kk
    have q8 := WS_8 hW
    have q9 := WS_128 hW
    refine x_il1 (pc := 44) rfl rfl ?_
    refine x_const (pc := 45) (pc' := 48) (.int (nI 128)) rfl rfl rfl rfl ?_
    refine x_cmpN_ge (pc := 48) (t := 79) rfl rfl (by omega) (by omega) (fun c48 => ?_) (fun c48 => ?_)
    · omega
    · refine x_al1 (pc := 51) rfl rfl ?_
      refine g_1_1 (pc := 52) rfl rfl ?_
      refine x_k (pc := 55) rfl rfl rfl ⟨Nat.le_of_ble_eq_true rfl, Nat.le_of_ble_eq_true rfl, Nat.le_of_ble_eq_true rfl⟩ rfl (rs_end (I := I) (A := A) hW (by omega) hR ?_)
      show mq 35 58 [some (.ref 1), some (.ref 13), some (.int (nI x)), some (.int (nI j))] [.int (nI 0)] (hS n u I A J B mk sn L xs X) _
      refine x_ifN_eq (pc := 58) (t := 79) rfl rfl (by decide) (fun _ => ?_) (fun c => absurd c (by decide))
      rw [show j = c by omega] at hnx
      exact kk I A j (Fr_refl _ _) (Fr_refl _ _) hnx hK
  | succ z ih =>
    intro j e a I A h hz hR he hnx hK kk
    have hj : j < c := by omega
    have q8 := WS_8 hW
    have q9 := WS_128 hW
    refine x_il1 (pc := 44) rfl rfl ?_
    refine x_const (pc := 45) (pc' := 48) (.int (nI 128)) rfl rfl rfl rfl ?_
    refine x_cmpN_ge (pc := 48) (t := 79) rfl rfl (by omega) (by omega) (fun c48 => ?_) (fun c48 => ?_)
    · omega
    · refine x_al1 (pc := 51) rfl rfl ?_
      refine g_1_1 (pc := 52) rfl rfl ?_
      refine x_k (pc := 55) rfl rfl rfl ⟨Nat.le_of_ble_eq_true rfl, Nat.le_of_ble_eq_true rfl, Nat.le_of_ble_eq_true rfl⟩ rfl (rs_step (I := I) (A := A) h hs hW hj hR he (fun I1 A1 f1 g1 hR1 e7 e10 hb => ?_))
      show mq 35 58 [some (.ref 1), some (.ref 13), some (.int (nI x)), some (.int (nI j))] [.int (nI 1)] (hS n u I1 A1 J B mk sn L xs X) _
      refine x_ifN_eq (pc := 58) (t := 79) rfl rfl (by decide) (fun c => absurd c (by decide)) (fun _ => ?_)
      refine x_al1 (pc := 61) rfl rfl ?_
      refine x_al1 (pc := 62) rfl rfl ?_
      refine x_al1 (pc := 63) rfl rfl ?_
      refine g_1_1 (pc := 64) rfl rfl ?_
      refine g_4_1 (pc := 67) rfl rfl ?_
      refine x_k (pc := 70) rfl rfl rfl ⟨Nat.le_of_ble_eq_true rfl, Nat.le_of_ble_eq_true rfl, Nat.le_of_ble_eq_true rfl⟩ rfl (k_45_0 (I := I1) (A := A1) (b := bB D s) (q := sb D s j) (a := a) (WS_b hW hj).1 (WS_b hW hj).2.1 hb (h.2.1 _) (KC_fr hK g1 (by decide)) (fun I2 A2 f2 g2 y2 k2 => ?_))
      show mq 35 73 [some (.ref 1), some (.ref 13), some (.int (nI x)), some (.int (nI j))] [] (hS n u I2 A2 J B mk sn L xs X) _
      refine x_iincN (pc := 73) (c := 1) (ml' := [some (.ref 1), some (.ref 13), some (.int (nI x)), some (.int (nI (j + 1)))]) rfl rfl rfl rfl ?_
      refine x_step (pc := 76) (pc' := 44) rfl rfl rfl rfl ?_
      exact ih (j + 1) (eN e (pb D s j)) _ (I := I2) (A := A2) (by rw [g2 0 (by decide), g1 0 (by decide)]; exact h) (by omega) (RS_fr hR1 f2 (by decide) (by decide) (by decide) (by decide) (by decide)) (eN_lt he (pb_le hW (by omega))) y2 k2 (fun I3 A3 y f3 g3 y3 k3 => kk I3 A3 y (Fr_cons (Fr_cons (Fr_cons (Fr_refl _ _) f1 (by decide)) f2 (by decide)) f3 (by decide)) (Fr_cons (Fr_cons (Fr_cons (Fr_refl _ _) g1 (by decide)) g2 (by decide)) g3 (by decide)) y3 k3)
set_option maxRecDepth 100000 in
set_option maxHeartbeats 4000000 in
theorem l_35_0 {cn : Nat} {f bc : Nat → Nat} (hcn : cn ≤ 16) (hf : ∀ k, k < cn → f k < 16 ∧ WS D (f k) (bc (f k))) {Q : mO × mHp → Prop} : ∀ (z k : Nat) (w3 : Option Value) (a : Nat → KT) {I : Nat → Int32} {A : Nat → Nat → Int32}, (DK (A 0) D) → (k + z = cn) → (I 40 = nI cn) → (∀ j, j < cn → A 30 j = nI (f j)) → (I 42 = nxO D f bc k) → (KC 0 A a) → (∀ I' A' w', Fr [4, 5, 6, 7, 8, 9, 10, 20, 21, 22, 42] I I' → Fr [10, 11, 12, 13, 14, 31, 32, 33] A A' → I' 42 = nxO D f bc cn → KC 0 A' (lnL D f bc z k a) → mq 35 85 [some (.ref 1), some (.ref 13), some (.int (nI cn)), w'] [] (hS n u I' A' J B mk sn L xs X) Q) → mq 35 2 [some (.ref 1), some (.ref 13), some (.int (nI k)), w3] [] (hS n u I A J B mk sn L xs X) Q := by
  intro z
  induction z with
  | zero =>
    intro k w3 a I A h hz hc hsl hnx hK kk
    refine x_il1 (pc := 2) rfl rfl ?_
    refine x_al1 (pc := 3) rfl rfl ?_
    refine g_13_5 (pc := 4) (v := nI cn) rfl rfl hc ?_
    refine x_cmpN_ge (pc := 7) (t := 85) rfl rfl (by omega) (by omega) (fun c7 => ?_) (fun c7 => ?_)
    · rw [show k = cn by omega] at hnx
      rw [show k = cn by omega]
      exact kk I A w3 (Fr_refl _ _) (Fr_refl _ _) hnx hK
    · omega
  | succ z ih =>
    intro k w3 a I A h hz hc hsl hnx hK kk
    refine x_il1 (pc := 2) rfl rfl ?_
    refine x_al1 (pc := 3) rfl rfl ?_
    refine g_13_5 (pc := 4) (v := nI cn) rfl rfl hc ?_
    refine x_cmpN_ge (pc := 7) (t := 85) rfl rfl (by omega) (by omega) (fun c7 => ?_) (fun c7 => ?_)
    · omega
    · refine x_al1 (pc := 10) rfl rfl ?_
      refine x_al1 (pc := 11) rfl rfl ?_
      refine g_1_0 (pc := 12) rfl rfl ?_
      refine x_al1 (pc := 15) rfl rfl ?_
      refine g_13_1 (pc := 16) rfl rfl ?_
      refine x_il1 (pc := 19) rfl rfl ?_
      refine al_14 (pc := 20) (q := k) (v := nI (f k)) rfl rfl (by omega) (hsl k (by omega)) ?_
      refine x_k (pc := 21) rfl rfl rfl ⟨Nat.le_of_ble_eq_true rfl, Nat.le_of_ble_eq_true rfl, Nat.le_of_ble_eq_true rfl⟩ rfl (mq_k (c_22 h (hf k (by omega)).1) ?_)
      show mq 35 24 [some (.ref 1), some (.ref 13), some (.int (nI k)), w3] [.int (nI (bB D (f k))), .ref 13] (hS n u I A J B mk sn L xs X) _
      refine p_13_7 (pc := 24) rfl rfl ?_
      refine x_al1 (pc := 27) rfl rfl ?_
      refine g_1_1 (pc := 28) rfl rfl ?_
      refine x_al1 (pc := 31) rfl rfl ?_
      refine g_13_1 (pc := 32) rfl rfl ?_
      refine x_il1 (pc := 35) rfl rfl ?_
      refine al_14 (pc := 36) (q := k) (v := nI (f k)) rfl rfl (by omega) (hsl k (by omega)) ?_
      refine x_const (pc := 37) (pc' := 39) (.int (nI 8)) rfl rfl rfl rfl ?_
      refine x_k (pc := 39) rfl rfl rfl ⟨Nat.le_of_ble_eq_true rfl, Nat.le_of_ble_eq_true rfl, Nat.le_of_ble_eq_true rfl⟩ rfl (rs_open (I := va_up I 42 (nI (bB D (f k)))) (A := A) (j := 0) h (hf k (by omega)).1 (hf k (by omega)).2 (Nat.zero_le _) (pb_0 D (f k)).symm (fun I1 f1 hR => ?_))
      show mq 35 42 [some (.ref 1), some (.ref 13), some (.int (nI k)), w3] [] (hS n u I1 A J B mk sn L xs X) _
      refine x_const (pc := 42) (pc' := 43) (.int (nI 0)) rfl rfl rfl rfl ?_
      refine x_is1 (pc := 43) (ml' := [some (.ref 1), some (.ref 13), some (.int (nI k)), some (.int (nI 0))]) rfl rfl ?_
      refine l_35b_0 (I := I1) (A := A) (x := k) (s := f k) (c := bc (f k)) (hf k (by omega)).1 (hf k (by omega)).2 (bc (f k)) 0 8 _ h (Nat.zero_add _) hR (by decide) ((f1 42 (by decide)).trans rfl) hK (fun I2 A2 y f2 g2 y2 k2 => ?_)
      refine x_iincN (pc := 79) (c := 1) (ml' := [some (.ref 1), some (.ref 13), some (.int (nI (k + 1))), some (.int (nI y))]) rfl rfl rfl rfl ?_
      refine x_step (pc := 82) (pc' := 2) rfl rfl rfl rfl ?_
      have en : nxO D f bc (k + 1) = nxB D (f k) (bc (f k)) := (if_neg (Nat.succ_ne_zero k)).trans rfl
      exact ih (k + 1) _ _ (I := I2) (A := A2) (by rw [g2 0 (by decide)]; exact h) (by omega) ((f2 40 (by decide)).trans ((f1 40 (by decide)).trans hc)) (fun j hj => by rw [g2 30 (by decide)]; exact hsl j hj) (y2.trans en.symm) k2 (fun I3 A3 w f3 g3 y3 k3 => kk I3 A3 w (Fr_cons (Fr_cons (Fr_cons (Fr_u (Fr_refl _ _) (by decide)) f1 (by decide)) f2 (by decide)) f3 (by decide)) (Fr_cons (Fr_cons (Fr_refl _ _) g2 (by decide)) g3 (by decide)) y3 k3)
set_option maxRecDepth 100000 in
set_option maxHeartbeats 4000000 in
theorem k_35_0 (h : DK (A 0) D) {cn : Nat} {f bc : Nat → Nat} {a : Nat → KT} (hcn : cn ≤ 16) (hf : ∀ k, k < cn → f k < 16 ∧ WS D (f k) (bc (f k))) (hc : I 40 = nI cn) (hsl : ∀ j, j < cn → A 30 j = nI (f j)) (hnx : I 42 = nI 0) (hst : I 41 = nI 0) (hK : KC 0 A a) {Q : mO × mHp → Prop} (kk : ∀ I' A', Fr [4, 5, 6, 7, 8, 9, 10, 20, 21, 22, 41, 42] I I' → Fr [10, 11, 12, 13, 14, 31, 32, 33] A A' → I' 42 = nxO D f bc cn → I' 41 = stO D f 0 cn → KC 0 A' (lnL D f bc cn 0 a) → Q (.inl none, hS n u I' A' J B mk sn L xs X)) : mq 35 0 [some (.ref 1), some (.ref 13), none, none] [] (hS n u I A J B mk sn L xs X) Q := by
  refine x_const (pc := 0) (pc' := 1) (.int (nI 0)) rfl rfl rfl rfl ?_
  refine x_is1 (pc := 1) (ml' := [some (.ref 1), some (.ref 13), some (.int (nI 0)), none]) rfl rfl ?_
  refine l_35_0 (I := I) (A := A) (f := f) (bc := bc) hcn hf cn 0 none a h (Nat.zero_add _) hc hsl hnx hK (fun I2 A2 w f2 g2 y2 k2 => ?_)
  refine x_al1 (pc := 85) rfl rfl ?_
  refine g_13_0 (pc := 86) rfl rfl ?_
  refine x_const (pc := 89) (pc' := 90) (.int (nI 2)) rfl rfl rfl rfl ?_
  refine x_cmpN_ge (pc := 90) (t := 117) rfl rfl (by decide) (by decide) (fun c => absurd c (by decide)) (fun _ => ?_)
  refine x_al1 (pc := 93) rfl rfl ?_
  refine g_13_5 (pc := 94) (v := nI cn) rfl rfl ((f2 40 (by decide)).trans hc) ?_
  refine x_ifN_le (pc := 97) (t := 117) rfl rfl (by omega) (fun c97 => ?_) (fun c97 => ?_)
  · refine x_ret (pc := 117) rfl rfl ?_
    exact kk _ _ (Fr_cons (Fr_refl _ _) f2 (by decide)) (Fr_cons (Fr_refl _ _) g2 (by decide)) y2 ((f2 41 (by decide)).trans (hst.trans (show nI 0 = nI (if 1 < 0 ∨ cn = 0 then 0 else bB D (f 0)) by rw [if_pos (by omega)]))) k2
  · refine x_al1 (pc := 100) rfl rfl ?_
    refine x_al1 (pc := 101) rfl rfl ?_
    refine g_1_0 (pc := 102) rfl rfl ?_
    refine x_al1 (pc := 105) rfl rfl ?_
    refine g_13_1 (pc := 106) rfl rfl ?_
    refine x_const (pc := 109) (pc' := 110) (.int (nI 0)) rfl rfl rfl rfl ?_
    refine al_14 (pc := 110) (q := 0) (v := nI (f 0)) rfl rfl (by decide) (show A2 30 0 = nI (f 0) by rw [g2 30 (by decide)]; exact hsl 0 (by omega)) ?_
    refine x_k (pc := 111) rfl rfl rfl ⟨Nat.le_of_ble_eq_true rfl, Nat.le_of_ble_eq_true rfl, Nat.le_of_ble_eq_true rfl⟩ rfl (mq_k (c_22 (I := I2) (A := A2) (D := D) (by rw [g2 0 (by decide)]; exact h) (hf 0 (by omega)).1) ?_)
    show mq 35 114 [some (.ref 1), some (.ref 13), some (.int (nI cn)), w] [.int (nI (bB D (f 0))), .ref 13] (hS n u I2 A2 J B mk sn L xs X) _
    refine p_13_6 (pc := 114) rfl rfl ?_
    refine x_ret (pc := 117) rfl rfl ?_
    exact kk _ _ (Fr_u (Fr_cons (Fr_refl _ _) f2 (by decide)) (by decide)) (Fr_cons (Fr_refl _ _) g2 (by decide)) y2 (show nI (bB D (f 0)) = nI (if 1 < 0 ∨ cn = 0 then 0 else bB D (f 0)) by rw [if_neg (by omega)]) k2
set_option maxRecDepth 100000 in
set_option maxHeartbeats 4000000 in
theorem l_45_1 {b q : Nat} (hm : bN D q ≤ 4) {Q : mO × mHp → Prop} : ∀ (z k : Nat) (w5 : Option Value) {I : Nat → Int32} {A : Nat → Nat → Int32}, (k + z = bN D q) → (RB I A D b q) → (∀ I' A' w', Fr [45] I I' → Fr [] A A' → I' 45 = (if z = 0 then I 45 else oR D b q (bN D q - 1) + 1) → mq 45 93 [some (.ref 1), some (.ref 18), some (.ref 5), some (.ref 6), some (.int (nI (bN D q))), w'] [] (hS n u I' A' J B mk sn L xs X) Q) → mq 45 19 [some (.ref 1), some (.ref 18), some (.ref 5), some (.ref 6), some (.int (nI k)), w5] [] (hS n u I A J B mk sn L xs X) Q := by
  intro z
  induction z with
  | zero =>
    intro k w5 I A hz hR kk
    refine x_il2 (pc := 19) rfl rfl ?_
    refine x_al1 (pc := 21) rfl rfl ?_
    refine g_6_5 (pc := 22) (v := nI (bN D q)) rfl rfl hR.2.2.1 ?_
    refine x_cmpN_ge (pc := 25) (t := 93) rfl rfl (by omega) (by omega) (fun c25 => ?_) (fun c25 => ?_)
    · rw [show k = bN D q by omega]
      exact kk I A w5 (Fr_refl _ _) (Fr_refl _ _) rfl
    · omega
  | succ z ih =>
    intro k w5 I A hz hR kk
    refine x_il2 (pc := 19) rfl rfl ?_
    refine x_al1 (pc := 21) rfl rfl ?_
    refine g_6_5 (pc := 22) (v := nI (bN D q)) rfl rfl hR.2.2.1 ?_
    refine x_cmpN_ge (pc := 25) (t := 93) rfl rfl (by omega) (by omega) (fun c25 => ?_) (fun c25 => ?_)
    · omega
    · refine x_al1 (pc := 28) rfl rfl ?_
      refine x_al1 (pc := 29) rfl rfl ?_
      refine g_6_0 (pc := 30) rfl rfl ?_
      refine x_il2 (pc := 33) rfl rfl ?_
      refine al_7 (pc := 35) (q := k) (v := oR D b q k) rfl rfl (by omega) ((hR.2.2.2 k (by omega)).1) ?_
      refine x_const (pc := 36) (pc' := 37) (.int (nI 1)) rfl rfl rfl rfl ?_
      refine x_iadd (pc := 37) rfl rfl ?_
      refine p_18_7 (pc := 38) rfl rfl ?_
      refine x_al1 (pc := 41) rfl rfl ?_
      refine g_6_2 (pc := 42) rfl rfl ?_
      refine x_il2 (pc := 45) rfl rfl ?_
      refine al_9 (pc := 47) (q := k) (v := kR D q k) rfl rfl (by omega) ((hR.2.2.2 k (by omega)).2.2.1) ?_
      refine x_is2 (pc := 48) (ml' := [some (.ref 1), some (.ref 18), some (.ref 5), some (.ref 6), some (.int (nI k)), some (.int (kR D q k))]) rfl rfl ?_
      refine x_al1 (pc := 50) rfl rfl ?_
      refine g_18_0 (pc := 51) rfl rfl ?_
      refine x_const (pc := 54) (pc' := 55) (.int (nI 3)) rfl rfl rfl rfl ?_
      refine x_cmpN_ne (pc := 55) (t := 87) rfl rfl (by decide) (by decide) (fun _ => ?_) (fun c => absurd c (by decide))
      refine x_iincN (pc := 87) (c := 1) (ml' := [some (.ref 1), some (.ref 18), some (.ref 5), some (.ref 6), some (.int (nI (k + 1))), some (.int (kR D q k))]) rfl rfl rfl rfl ?_
      refine x_step (pc := 90) (pc' := 19) rfl rfl rfl rfl ?_
      refine ih (k + 1) _ (I := va_up I 45 ((oR D b q k) + (nI 1))) (A := A) (by omega) (RB_fr hR (show Fr [45] I (va_up I 45 ((oR D b q k) + (nI 1))) from (Fr_u (Fr_refl _ _) (by decide))) (show Fr [] A (A) from (Fr_refl _ _)) (by decide) (by decide)) (fun I2 A2 w2 f2 g2 y2 => kk I2 A2 w2 (Fr_cons (Fr_u (Fr_refl _ _) (by decide)) f2 (by decide)) (Fr_cons (Fr_refl _ _) g2 (by decide)) ?_)
      rw [y2, if_neg (Nat.succ_ne_zero z)]
      by_cases h0 : z = 0
      · rw [if_pos h0, show bN D q - 1 = k by omega]
        rfl
      · rw [if_neg h0]
set_option maxRecDepth 100000 in
set_option maxHeartbeats 4000000 in
theorem k_45_1 {b q : Nat} {a : Nat → KT} (hm1 : 1 ≤ bN D q) (hm : bN D q ≤ 4) (hR : RB I A D b q) (hpb : bP D q < 256) (hK : KC 1 A a) {Q : mO × mHp → Prop} (kk : ∀ I' A', Fr [45] I I' → Fr [35, 36, 37] A A' → I' 45 = oR D b q (bN D q - 1) + 1 → KC 1 A' (ln1 D b q a) → Q (.inl none, hS n u I' A' J B mk sn L xs X)) : mq 45 0 [some (.ref 1), some (.ref 18), some (.ref 5), none, none, none] [] (hS n u I A J B mk sn L xs X) Q := by
  by_cases hp : bP D q < 8
  · refine x_al1 (pc := 0) rfl rfl ?_
    refine g_5_0 (pc := 1) rfl rfl ?_
    refine x_as1 (pc := 4) (ml' := [some (.ref 1), some (.ref 18), some (.ref 5), some (.ref 6), none, none]) rfl rfl ?_
    refine x_al1 (pc := 5) rfl rfl ?_
    refine x_al1 (pc := 6) rfl rfl ?_
    refine x_al1 (pc := 7) rfl rfl ?_
    refine g_6_0 (pc := 8) rfl rfl ?_
    refine x_const (pc := 11) (pc' := 12) (.int (nI 0)) rfl rfl rfl rfl ?_
    refine al_7 (pc := 12) (q := 0) (v := oR D b q 0) rfl rfl (by decide) ((hR.2.2.2 0 (by omega)).1) ?_
    refine x_k (pc := 13) rfl rfl rfl ⟨Nat.le_of_ble_eq_true rfl, Nat.le_of_ble_eq_true rfl, Nat.le_of_ble_eq_true rfl⟩ rfl (k_46_1_0 (I := I) (A := A) (p := bP D q) (m := bN D q) (q := bS D q) (o := oR D b q 0) hR.1 hp hR.2.1 hR.2.2.1 (fun A1 g1 u1 v1 w1 => ?_))
    show mq 45 16 [some (.ref 1), some (.ref 18), some (.ref 5), some (.ref 6), none, none] [] (hS n u I A1 J B mk sn L xs X) _
    refine x_const (pc := 16) (pc' := 17) (.int (nI 0)) rfl rfl rfl rfl ?_
    refine x_is2 (pc := 17) (ml' := [some (.ref 1), some (.ref 18), some (.ref 5), some (.ref 6), some (.int (nI 0)), none]) rfl rfl ?_
    refine l_45_1 (I := I) (A := A1) (b := b) (q := q) hm (bN D q) 0 none (Nat.zero_add _) (RB_fr hR (Fr_refl [] I) g1 (by decide) (by decide)) (fun I2 A2 w2 f2 g2 y2 => ?_)
    rw [if_neg (by omega)] at y2
    refine x_ret (pc := 93) rfl rfl ?_
    exact kk I2 A2 (Fr_cons (Fr_refl _ _) f2 (by decide)) (Fr_cons (Fr_cons (Fr_refl _ _) g1 (by decide)) g2 (by decide)) y2 (KC_fr (KC_s hK hp u1 v1 w1 (fun p => by unfold ln1; by_cases h9 : p = bP D q; rw [if_pos ⟨hp, h9⟩, if_pos h9]; rw [if_neg (fun w => h9 w.2), if_neg h9])) g2 (by decide))
  · refine x_al1 (pc := 0) rfl rfl ?_
    refine g_5_0 (pc := 1) rfl rfl ?_
    refine x_as1 (pc := 4) (ml' := [some (.ref 1), some (.ref 18), some (.ref 5), some (.ref 6), none, none]) rfl rfl ?_
    refine x_al1 (pc := 5) rfl rfl ?_
    refine x_al1 (pc := 6) rfl rfl ?_
    refine x_al1 (pc := 7) rfl rfl ?_
    refine g_6_0 (pc := 8) rfl rfl ?_
    refine x_const (pc := 11) (pc' := 12) (.int (nI 0)) rfl rfl rfl rfl ?_
    refine al_7 (pc := 12) (q := 0) (v := oR D b q 0) rfl rfl (by decide) ((hR.2.2.2 0 (by omega)).1) ?_
    refine x_k (pc := 13) rfl rfl rfl ⟨Nat.le_of_ble_eq_true rfl, Nat.le_of_ble_eq_true rfl, Nat.le_of_ble_eq_true rfl⟩ rfl (k_46n_1_0 (I := I) (A := A) (p := bP D q) (o := oR D b q 0) hR.1 ⟨Nat.le_of_not_lt hp, hpb⟩ ?_)
    show mq 45 16 [some (.ref 1), some (.ref 18), some (.ref 5), some (.ref 6), none, none] [] (hS n u I A J B mk sn L xs X) _
    refine x_const (pc := 16) (pc' := 17) (.int (nI 0)) rfl rfl rfl rfl ?_
    refine x_is2 (pc := 17) (ml' := [some (.ref 1), some (.ref 18), some (.ref 5), some (.ref 6), some (.int (nI 0)), none]) rfl rfl ?_
    refine l_45_1 (I := I) (A := A) (b := b) (q := q) hm (bN D q) 0 none (Nat.zero_add _) hR (fun I2 A2 w2 f2 g2 y2 => ?_)
    rw [if_neg (by omega)] at y2
    refine x_ret (pc := 93) rfl rfl ?_
    exact kk I2 A2 (Fr_cons (Fr_refl _ _) f2 (by decide)) (Fr_cons (Fr_refl _ _) g2 (by decide)) y2 (KC_fr (by rw [show ln1 D b q a = a from funext (fun p => if_neg (fun w => hp w.1))]; exact hK) g2 (by decide))
set_option maxRecDepth 100000 in
set_option maxHeartbeats 4000000 in
theorem l_35b_1 {x s c : Nat} (hs : s < 16) (hW : WS D s c) {Q : mO × mHp → Prop} : ∀ (z j e : Nat) (a : Nat → KT) {I : Nat → Int32} {A : Nat → Nat → Int32}, (DK (A 0) D) → (j + z = c) → (RS I D s j e) → (e < 1000) → (I 45 = nxB D s j) → (KC 1 A a) → (∀ I' A' y, Fr [7, 8, 9, 10, 20, 21, 22, 45] I I' → Fr [10, 11, 12, 13, 14, 35, 36, 37] A A' → I' 45 = nxB D s c → KC 1 A' (lnS D s z j a) → mq 35 79 [some (.ref 1), some (.ref 18), some (.int (nI x)), some (.int (nI y))] [] (hS n u I' A' J B mk sn L xs X) Q) → mq 35 44 [some (.ref 1), some (.ref 18), some (.int (nI x)), some (.int (nI j))] [] (hS n u I A J B mk sn L xs X) Q := by
  intro z
  induction z with
  | zero =>
    intro j e a I A h hz hR he hnx hK kk
    have q8 := WS_8 hW
    have q9 := WS_128 hW
    refine x_il1 (pc := 44) rfl rfl ?_
    refine x_const (pc := 45) (pc' := 48) (.int (nI 128)) rfl rfl rfl rfl ?_
    refine x_cmpN_ge (pc := 48) (t := 79) rfl rfl (by omega) (by omega) (fun c48 => ?_) (fun c48 => ?_)
    · omega
    · refine x_al1 (pc := 51) rfl rfl ?_
      refine g_1_1 (pc := 52) rfl rfl ?_
      refine x_k (pc := 55) rfl rfl rfl ⟨Nat.le_of_ble_eq_true rfl, Nat.le_of_ble_eq_true rfl, Nat.le_of_ble_eq_true rfl⟩ rfl (rs_end (I := I) (A := A) hW (by omega) hR ?_)
      show mq 35 58 [some (.ref 1), some (.ref 18), some (.int (nI x)), some (.int (nI j))] [.int (nI 0)] (hS n u I A J B mk sn L xs X) _
      refine x_ifN_eq (pc := 58) (t := 79) rfl rfl (by decide) (fun _ => ?_) (fun c => absurd c (by decide))
      rw [show j = c by omega] at hnx
      exact kk I A j (Fr_refl _ _) (Fr_refl _ _) hnx hK
  | succ z ih =>
    intro j e a I A h hz hR he hnx hK kk
    have hj : j < c := by omega
    have q8 := WS_8 hW
    have q9 := WS_128 hW
    refine x_il1 (pc := 44) rfl rfl ?_
    refine x_const (pc := 45) (pc' := 48) (.int (nI 128)) rfl rfl rfl rfl ?_
    refine x_cmpN_ge (pc := 48) (t := 79) rfl rfl (by omega) (by omega) (fun c48 => ?_) (fun c48 => ?_)
    · omega
    · refine x_al1 (pc := 51) rfl rfl ?_
      refine g_1_1 (pc := 52) rfl rfl ?_
      refine x_k (pc := 55) rfl rfl rfl ⟨Nat.le_of_ble_eq_true rfl, Nat.le_of_ble_eq_true rfl, Nat.le_of_ble_eq_true rfl⟩ rfl (rs_step (I := I) (A := A) h hs hW hj hR he (fun I1 A1 f1 g1 hR1 e7 e10 hb => ?_))
      show mq 35 58 [some (.ref 1), some (.ref 18), some (.int (nI x)), some (.int (nI j))] [.int (nI 1)] (hS n u I1 A1 J B mk sn L xs X) _
      refine x_ifN_eq (pc := 58) (t := 79) rfl rfl (by decide) (fun c => absurd c (by decide)) (fun _ => ?_)
      refine x_al1 (pc := 61) rfl rfl ?_
      refine x_al1 (pc := 62) rfl rfl ?_
      refine x_al1 (pc := 63) rfl rfl ?_
      refine g_1_1 (pc := 64) rfl rfl ?_
      refine g_4_1 (pc := 67) rfl rfl ?_
      refine x_k (pc := 70) rfl rfl rfl ⟨Nat.le_of_ble_eq_true rfl, Nat.le_of_ble_eq_true rfl, Nat.le_of_ble_eq_true rfl⟩ rfl (k_45_1 (I := I1) (A := A1) (b := bB D s) (q := sb D s j) (a := a) (WS_b hW hj).1 (WS_b hW hj).2.1 hb (h.2.1 _) (KC_fr hK g1 (by decide)) (fun I2 A2 f2 g2 y2 k2 => ?_))
      show mq 35 73 [some (.ref 1), some (.ref 18), some (.int (nI x)), some (.int (nI j))] [] (hS n u I2 A2 J B mk sn L xs X) _
      refine x_iincN (pc := 73) (c := 1) (ml' := [some (.ref 1), some (.ref 18), some (.int (nI x)), some (.int (nI (j + 1)))]) rfl rfl rfl rfl ?_
      refine x_step (pc := 76) (pc' := 44) rfl rfl rfl rfl ?_
      exact ih (j + 1) (eN e (pb D s j)) _ (I := I2) (A := A2) (by rw [g2 0 (by decide), g1 0 (by decide)]; exact h) (by omega) (RS_fr hR1 f2 (by decide) (by decide) (by decide) (by decide) (by decide)) (eN_lt he (pb_le hW (by omega))) y2 k2 (fun I3 A3 y f3 g3 y3 k3 => kk I3 A3 y (Fr_cons (Fr_cons (Fr_cons (Fr_refl _ _) f1 (by decide)) f2 (by decide)) f3 (by decide)) (Fr_cons (Fr_cons (Fr_cons (Fr_refl _ _) g1 (by decide)) g2 (by decide)) g3 (by decide)) y3 k3)
set_option maxRecDepth 100000 in
set_option maxHeartbeats 4000000 in
theorem l_35_1 {cn : Nat} {f bc : Nat → Nat} (hcn : cn ≤ 16) (hf : ∀ k, k < cn → f k < 16 ∧ WS D (f k) (bc (f k))) {Q : mO × mHp → Prop} : ∀ (z k : Nat) (w3 : Option Value) (a : Nat → KT) {I : Nat → Int32} {A : Nat → Nat → Int32}, (DK (A 0) D) → (k + z = cn) → (I 43 = nI cn) → (∀ j, j < cn → A 34 j = nI (f j)) → (I 45 = nxO D f bc k) → (KC 1 A a) → (∀ I' A' w', Fr [4, 5, 6, 7, 8, 9, 10, 20, 21, 22, 45] I I' → Fr [10, 11, 12, 13, 14, 35, 36, 37] A A' → I' 45 = nxO D f bc cn → KC 1 A' (lnL D f bc z k a) → mq 35 85 [some (.ref 1), some (.ref 18), some (.int (nI cn)), w'] [] (hS n u I' A' J B mk sn L xs X) Q) → mq 35 2 [some (.ref 1), some (.ref 18), some (.int (nI k)), w3] [] (hS n u I A J B mk sn L xs X) Q := by
  intro z
  induction z with
  | zero =>
    intro k w3 a I A h hz hc hsl hnx hK kk
    refine x_il1 (pc := 2) rfl rfl ?_
    refine x_al1 (pc := 3) rfl rfl ?_
    refine g_18_5 (pc := 4) (v := nI cn) rfl rfl hc ?_
    refine x_cmpN_ge (pc := 7) (t := 85) rfl rfl (by omega) (by omega) (fun c7 => ?_) (fun c7 => ?_)
    · rw [show k = cn by omega] at hnx
      rw [show k = cn by omega]
      exact kk I A w3 (Fr_refl _ _) (Fr_refl _ _) hnx hK
    · omega
  | succ z ih =>
    intro k w3 a I A h hz hc hsl hnx hK kk
    refine x_il1 (pc := 2) rfl rfl ?_
    refine x_al1 (pc := 3) rfl rfl ?_
    refine g_18_5 (pc := 4) (v := nI cn) rfl rfl hc ?_
    refine x_cmpN_ge (pc := 7) (t := 85) rfl rfl (by omega) (by omega) (fun c7 => ?_) (fun c7 => ?_)
    · omega
    · refine x_al1 (pc := 10) rfl rfl ?_
      refine x_al1 (pc := 11) rfl rfl ?_
      refine g_1_0 (pc := 12) rfl rfl ?_
      refine x_al1 (pc := 15) rfl rfl ?_
      refine g_18_1 (pc := 16) rfl rfl ?_
      refine x_il1 (pc := 19) rfl rfl ?_
      refine al_19 (pc := 20) (q := k) (v := nI (f k)) rfl rfl (by omega) (hsl k (by omega)) ?_
      refine x_k (pc := 21) rfl rfl rfl ⟨Nat.le_of_ble_eq_true rfl, Nat.le_of_ble_eq_true rfl, Nat.le_of_ble_eq_true rfl⟩ rfl (mq_k (c_22 h (hf k (by omega)).1) ?_)
      show mq 35 24 [some (.ref 1), some (.ref 18), some (.int (nI k)), w3] [.int (nI (bB D (f k))), .ref 18] (hS n u I A J B mk sn L xs X) _
      refine p_18_7 (pc := 24) rfl rfl ?_
      refine x_al1 (pc := 27) rfl rfl ?_
      refine g_1_1 (pc := 28) rfl rfl ?_
      refine x_al1 (pc := 31) rfl rfl ?_
      refine g_18_1 (pc := 32) rfl rfl ?_
      refine x_il1 (pc := 35) rfl rfl ?_
      refine al_19 (pc := 36) (q := k) (v := nI (f k)) rfl rfl (by omega) (hsl k (by omega)) ?_
      refine x_const (pc := 37) (pc' := 39) (.int (nI 8)) rfl rfl rfl rfl ?_
      refine x_k (pc := 39) rfl rfl rfl ⟨Nat.le_of_ble_eq_true rfl, Nat.le_of_ble_eq_true rfl, Nat.le_of_ble_eq_true rfl⟩ rfl (rs_open (I := va_up I 45 (nI (bB D (f k)))) (A := A) (j := 0) h (hf k (by omega)).1 (hf k (by omega)).2 (Nat.zero_le _) (pb_0 D (f k)).symm (fun I1 f1 hR => ?_))
      show mq 35 42 [some (.ref 1), some (.ref 18), some (.int (nI k)), w3] [] (hS n u I1 A J B mk sn L xs X) _
      refine x_const (pc := 42) (pc' := 43) (.int (nI 0)) rfl rfl rfl rfl ?_
      refine x_is1 (pc := 43) (ml' := [some (.ref 1), some (.ref 18), some (.int (nI k)), some (.int (nI 0))]) rfl rfl ?_
      refine l_35b_1 (I := I1) (A := A) (x := k) (s := f k) (c := bc (f k)) (hf k (by omega)).1 (hf k (by omega)).2 (bc (f k)) 0 8 _ h (Nat.zero_add _) hR (by decide) ((f1 45 (by decide)).trans rfl) hK (fun I2 A2 y f2 g2 y2 k2 => ?_)
      refine x_iincN (pc := 79) (c := 1) (ml' := [some (.ref 1), some (.ref 18), some (.int (nI (k + 1))), some (.int (nI y))]) rfl rfl rfl rfl ?_
      refine x_step (pc := 82) (pc' := 2) rfl rfl rfl rfl ?_
      have en : nxO D f bc (k + 1) = nxB D (f k) (bc (f k)) := (if_neg (Nat.succ_ne_zero k)).trans rfl
      exact ih (k + 1) _ _ (I := I2) (A := A2) (by rw [g2 0 (by decide)]; exact h) (by omega) ((f2 43 (by decide)).trans ((f1 43 (by decide)).trans hc)) (fun j hj => by rw [g2 34 (by decide)]; exact hsl j hj) (y2.trans en.symm) k2 (fun I3 A3 w f3 g3 y3 k3 => kk I3 A3 w (Fr_cons (Fr_cons (Fr_cons (Fr_u (Fr_refl _ _) (by decide)) f1 (by decide)) f2 (by decide)) f3 (by decide)) (Fr_cons (Fr_cons (Fr_refl _ _) g2 (by decide)) g3 (by decide)) y3 k3)
set_option maxRecDepth 100000 in
set_option maxHeartbeats 4000000 in
theorem k_35_1 (h : DK (A 0) D) {cn : Nat} {f bc : Nat → Nat} {a : Nat → KT} (hcn : cn ≤ 16) (hf : ∀ k, k < cn → f k < 16 ∧ WS D (f k) (bc (f k))) (hc : I 43 = nI cn) (hsl : ∀ j, j < cn → A 34 j = nI (f j)) (hnx : I 45 = nI 0) (hst : I 44 = nI 0) (hK : KC 1 A a) {Q : mO × mHp → Prop} (kk : ∀ I' A', Fr [4, 5, 6, 7, 8, 9, 10, 20, 21, 22, 44, 45] I I' → Fr [10, 11, 12, 13, 14, 35, 36, 37] A A' → I' 45 = nxO D f bc cn → I' 44 = stO D f 1 cn → KC 1 A' (lnL D f bc cn 0 a) → Q (.inl none, hS n u I' A' J B mk sn L xs X)) : mq 35 0 [some (.ref 1), some (.ref 18), none, none] [] (hS n u I A J B mk sn L xs X) Q := by
  refine x_const (pc := 0) (pc' := 1) (.int (nI 0)) rfl rfl rfl rfl ?_
  refine x_is1 (pc := 1) (ml' := [some (.ref 1), some (.ref 18), some (.int (nI 0)), none]) rfl rfl ?_
  refine l_35_1 (I := I) (A := A) (f := f) (bc := bc) hcn hf cn 0 none a h (Nat.zero_add _) hc hsl hnx hK (fun I2 A2 w f2 g2 y2 k2 => ?_)
  refine x_al1 (pc := 85) rfl rfl ?_
  refine g_18_0 (pc := 86) rfl rfl ?_
  refine x_const (pc := 89) (pc' := 90) (.int (nI 2)) rfl rfl rfl rfl ?_
  refine x_cmpN_ge (pc := 90) (t := 117) rfl rfl (by decide) (by decide) (fun c => absurd c (by decide)) (fun _ => ?_)
  refine x_al1 (pc := 93) rfl rfl ?_
  refine g_18_5 (pc := 94) (v := nI cn) rfl rfl ((f2 43 (by decide)).trans hc) ?_
  refine x_ifN_le (pc := 97) (t := 117) rfl rfl (by omega) (fun c97 => ?_) (fun c97 => ?_)
  · refine x_ret (pc := 117) rfl rfl ?_
    exact kk _ _ (Fr_cons (Fr_refl _ _) f2 (by decide)) (Fr_cons (Fr_refl _ _) g2 (by decide)) y2 ((f2 44 (by decide)).trans (hst.trans (show nI 0 = nI (if 1 < 1 ∨ cn = 0 then 0 else bB D (f 0)) by rw [if_pos (by omega)]))) k2
  · refine x_al1 (pc := 100) rfl rfl ?_
    refine x_al1 (pc := 101) rfl rfl ?_
    refine g_1_0 (pc := 102) rfl rfl ?_
    refine x_al1 (pc := 105) rfl rfl ?_
    refine g_18_1 (pc := 106) rfl rfl ?_
    refine x_const (pc := 109) (pc' := 110) (.int (nI 0)) rfl rfl rfl rfl ?_
    refine al_19 (pc := 110) (q := 0) (v := nI (f 0)) rfl rfl (by decide) (show A2 34 0 = nI (f 0) by rw [g2 34 (by decide)]; exact hsl 0 (by omega)) ?_
    refine x_k (pc := 111) rfl rfl rfl ⟨Nat.le_of_ble_eq_true rfl, Nat.le_of_ble_eq_true rfl, Nat.le_of_ble_eq_true rfl⟩ rfl (mq_k (c_22 (I := I2) (A := A2) (D := D) (by rw [g2 0 (by decide)]; exact h) (hf 0 (by omega)).1) ?_)
    show mq 35 114 [some (.ref 1), some (.ref 18), some (.int (nI cn)), w] [.int (nI (bB D (f 0))), .ref 18] (hS n u I2 A2 J B mk sn L xs X) _
    refine p_18_6 (pc := 114) rfl rfl ?_
    refine x_ret (pc := 117) rfl rfl ?_
    exact kk _ _ (Fr_u (Fr_cons (Fr_refl _ _) f2 (by decide)) (by decide)) (Fr_cons (Fr_refl _ _) g2 (by decide)) y2 (show nI (bB D (f 0)) = nI (if 1 < 1 ∨ cn = 0 then 0 else bB D (f 0)) by rw [if_neg (by omega)]) k2
set_option maxRecDepth 100000 in
set_option maxHeartbeats 4000000 in
theorem l_45_2 {b q : Nat} (hm : bN D q ≤ 4) {Q : mO × mHp → Prop} : ∀ (z k : Nat) (w5 : Option Value) {I : Nat → Int32} {A : Nat → Nat → Int32}, (k + z = bN D q) → (RB I A D b q) → (∀ I' A' w', Fr [48] I I' → Fr [] A A' → I' 48 = (if z = 0 then I 48 else oR D b q (bN D q - 1) + 1) → mq 45 93 [some (.ref 1), some (.ref 23), some (.ref 5), some (.ref 6), some (.int (nI (bN D q))), w'] [] (hS n u I' A' J B mk sn L xs X) Q) → mq 45 19 [some (.ref 1), some (.ref 23), some (.ref 5), some (.ref 6), some (.int (nI k)), w5] [] (hS n u I A J B mk sn L xs X) Q := by
  intro z
  induction z with
  | zero =>
    intro k w5 I A hz hR kk
    refine x_il2 (pc := 19) rfl rfl ?_
    refine x_al1 (pc := 21) rfl rfl ?_
    refine g_6_5 (pc := 22) (v := nI (bN D q)) rfl rfl hR.2.2.1 ?_
    refine x_cmpN_ge (pc := 25) (t := 93) rfl rfl (by omega) (by omega) (fun c25 => ?_) (fun c25 => ?_)
    · rw [show k = bN D q by omega]
      exact kk I A w5 (Fr_refl _ _) (Fr_refl _ _) rfl
    · omega
  | succ z ih =>
    intro k w5 I A hz hR kk
    refine x_il2 (pc := 19) rfl rfl ?_
    refine x_al1 (pc := 21) rfl rfl ?_
    refine g_6_5 (pc := 22) (v := nI (bN D q)) rfl rfl hR.2.2.1 ?_
    refine x_cmpN_ge (pc := 25) (t := 93) rfl rfl (by omega) (by omega) (fun c25 => ?_) (fun c25 => ?_)
    · omega
    · refine x_al1 (pc := 28) rfl rfl ?_
      refine x_al1 (pc := 29) rfl rfl ?_
      refine g_6_0 (pc := 30) rfl rfl ?_
      refine x_il2 (pc := 33) rfl rfl ?_
      refine al_7 (pc := 35) (q := k) (v := oR D b q k) rfl rfl (by omega) ((hR.2.2.2 k (by omega)).1) ?_
      refine x_const (pc := 36) (pc' := 37) (.int (nI 1)) rfl rfl rfl rfl ?_
      refine x_iadd (pc := 37) rfl rfl ?_
      refine p_23_7 (pc := 38) rfl rfl ?_
      refine x_al1 (pc := 41) rfl rfl ?_
      refine g_6_2 (pc := 42) rfl rfl ?_
      refine x_il2 (pc := 45) rfl rfl ?_
      refine al_9 (pc := 47) (q := k) (v := kR D q k) rfl rfl (by omega) ((hR.2.2.2 k (by omega)).2.2.1) ?_
      refine x_is2 (pc := 48) (ml' := [some (.ref 1), some (.ref 23), some (.ref 5), some (.ref 6), some (.int (nI k)), some (.int (kR D q k))]) rfl rfl ?_
      refine x_al1 (pc := 50) rfl rfl ?_
      refine g_23_0 (pc := 51) rfl rfl ?_
      refine x_const (pc := 54) (pc' := 55) (.int (nI 3)) rfl rfl rfl rfl ?_
      refine x_cmpN_ne (pc := 55) (t := 87) rfl rfl (by decide) (by decide) (fun _ => ?_) (fun c => absurd c (by decide))
      refine x_iincN (pc := 87) (c := 1) (ml' := [some (.ref 1), some (.ref 23), some (.ref 5), some (.ref 6), some (.int (nI (k + 1))), some (.int (kR D q k))]) rfl rfl rfl rfl ?_
      refine x_step (pc := 90) (pc' := 19) rfl rfl rfl rfl ?_
      refine ih (k + 1) _ (I := va_up I 48 ((oR D b q k) + (nI 1))) (A := A) (by omega) (RB_fr hR (show Fr [48] I (va_up I 48 ((oR D b q k) + (nI 1))) from (Fr_u (Fr_refl _ _) (by decide))) (show Fr [] A (A) from (Fr_refl _ _)) (by decide) (by decide)) (fun I2 A2 w2 f2 g2 y2 => kk I2 A2 w2 (Fr_cons (Fr_u (Fr_refl _ _) (by decide)) f2 (by decide)) (Fr_cons (Fr_refl _ _) g2 (by decide)) ?_)
      rw [y2, if_neg (Nat.succ_ne_zero z)]
      by_cases h0 : z = 0
      · rw [if_pos h0, show bN D q - 1 = k by omega]
        rfl
      · rw [if_neg h0]
set_option maxRecDepth 100000 in
set_option maxHeartbeats 4000000 in
theorem k_45_2 {b q : Nat} {a : Nat → KT} (hm1 : 1 ≤ bN D q) (hm : bN D q ≤ 4) (hR : RB I A D b q) (hpb : bP D q < 256) (hK : KC 2 A a) {Q : mO × mHp → Prop} (kk : ∀ I' A', Fr [48] I I' → Fr [39, 40, 41] A A' → I' 48 = oR D b q (bN D q - 1) + 1 → KC 2 A' (ln1 D b q a) → Q (.inl none, hS n u I' A' J B mk sn L xs X)) : mq 45 0 [some (.ref 1), some (.ref 23), some (.ref 5), none, none, none] [] (hS n u I A J B mk sn L xs X) Q := by
  by_cases hp : bP D q < 8
  · refine x_al1 (pc := 0) rfl rfl ?_
    refine g_5_0 (pc := 1) rfl rfl ?_
    refine x_as1 (pc := 4) (ml' := [some (.ref 1), some (.ref 23), some (.ref 5), some (.ref 6), none, none]) rfl rfl ?_
    refine x_al1 (pc := 5) rfl rfl ?_
    refine x_al1 (pc := 6) rfl rfl ?_
    refine x_al1 (pc := 7) rfl rfl ?_
    refine g_6_0 (pc := 8) rfl rfl ?_
    refine x_const (pc := 11) (pc' := 12) (.int (nI 0)) rfl rfl rfl rfl ?_
    refine al_7 (pc := 12) (q := 0) (v := oR D b q 0) rfl rfl (by decide) ((hR.2.2.2 0 (by omega)).1) ?_
    refine x_k (pc := 13) rfl rfl rfl ⟨Nat.le_of_ble_eq_true rfl, Nat.le_of_ble_eq_true rfl, Nat.le_of_ble_eq_true rfl⟩ rfl (k_46_2_0 (I := I) (A := A) (p := bP D q) (m := bN D q) (q := bS D q) (o := oR D b q 0) hR.1 hp hR.2.1 hR.2.2.1 (fun A1 g1 u1 v1 w1 => ?_))
    show mq 45 16 [some (.ref 1), some (.ref 23), some (.ref 5), some (.ref 6), none, none] [] (hS n u I A1 J B mk sn L xs X) _
    refine x_const (pc := 16) (pc' := 17) (.int (nI 0)) rfl rfl rfl rfl ?_
    refine x_is2 (pc := 17) (ml' := [some (.ref 1), some (.ref 23), some (.ref 5), some (.ref 6), some (.int (nI 0)), none]) rfl rfl ?_
    refine l_45_2 (I := I) (A := A1) (b := b) (q := q) hm (bN D q) 0 none (Nat.zero_add _) (RB_fr hR (Fr_refl [] I) g1 (by decide) (by decide)) (fun I2 A2 w2 f2 g2 y2 => ?_)
    rw [if_neg (by omega)] at y2
    refine x_ret (pc := 93) rfl rfl ?_
    exact kk I2 A2 (Fr_cons (Fr_refl _ _) f2 (by decide)) (Fr_cons (Fr_cons (Fr_refl _ _) g1 (by decide)) g2 (by decide)) y2 (KC_fr (KC_s hK hp u1 v1 w1 (fun p => by unfold ln1; by_cases h9 : p = bP D q; rw [if_pos ⟨hp, h9⟩, if_pos h9]; rw [if_neg (fun w => h9 w.2), if_neg h9])) g2 (by decide))
  · refine x_al1 (pc := 0) rfl rfl ?_
    refine g_5_0 (pc := 1) rfl rfl ?_
    refine x_as1 (pc := 4) (ml' := [some (.ref 1), some (.ref 23), some (.ref 5), some (.ref 6), none, none]) rfl rfl ?_
    refine x_al1 (pc := 5) rfl rfl ?_
    refine x_al1 (pc := 6) rfl rfl ?_
    refine x_al1 (pc := 7) rfl rfl ?_
    refine g_6_0 (pc := 8) rfl rfl ?_
    refine x_const (pc := 11) (pc' := 12) (.int (nI 0)) rfl rfl rfl rfl ?_
    refine al_7 (pc := 12) (q := 0) (v := oR D b q 0) rfl rfl (by decide) ((hR.2.2.2 0 (by omega)).1) ?_
    refine x_k (pc := 13) rfl rfl rfl ⟨Nat.le_of_ble_eq_true rfl, Nat.le_of_ble_eq_true rfl, Nat.le_of_ble_eq_true rfl⟩ rfl (k_46n_2_0 (I := I) (A := A) (p := bP D q) (o := oR D b q 0) hR.1 ⟨Nat.le_of_not_lt hp, hpb⟩ ?_)
    show mq 45 16 [some (.ref 1), some (.ref 23), some (.ref 5), some (.ref 6), none, none] [] (hS n u I A J B mk sn L xs X) _
    refine x_const (pc := 16) (pc' := 17) (.int (nI 0)) rfl rfl rfl rfl ?_
    refine x_is2 (pc := 17) (ml' := [some (.ref 1), some (.ref 23), some (.ref 5), some (.ref 6), some (.int (nI 0)), none]) rfl rfl ?_
    refine l_45_2 (I := I) (A := A) (b := b) (q := q) hm (bN D q) 0 none (Nat.zero_add _) hR (fun I2 A2 w2 f2 g2 y2 => ?_)
    rw [if_neg (by omega)] at y2
    refine x_ret (pc := 93) rfl rfl ?_
    exact kk I2 A2 (Fr_cons (Fr_refl _ _) f2 (by decide)) (Fr_cons (Fr_refl _ _) g2 (by decide)) y2 (KC_fr (by rw [show ln1 D b q a = a from funext (fun p => if_neg (fun w => hp w.1))]; exact hK) g2 (by decide))
set_option maxRecDepth 100000 in
set_option maxHeartbeats 4000000 in
theorem l_35b_2 {x s c : Nat} (hs : s < 16) (hW : WS D s c) {Q : mO × mHp → Prop} : ∀ (z j e : Nat) (a : Nat → KT) {I : Nat → Int32} {A : Nat → Nat → Int32}, (DK (A 0) D) → (j + z = c) → (RS I D s j e) → (e < 1000) → (I 48 = nxB D s j) → (KC 2 A a) → (∀ I' A' y, Fr [7, 8, 9, 10, 20, 21, 22, 48] I I' → Fr [10, 11, 12, 13, 14, 39, 40, 41] A A' → I' 48 = nxB D s c → KC 2 A' (lnS D s z j a) → mq 35 79 [some (.ref 1), some (.ref 23), some (.int (nI x)), some (.int (nI y))] [] (hS n u I' A' J B mk sn L xs X) Q) → mq 35 44 [some (.ref 1), some (.ref 23), some (.int (nI x)), some (.int (nI j))] [] (hS n u I A J B mk sn L xs X) Q := by
  intro z
  induction z with
  | zero =>
    intro j e a I A h hz hR he hnx hK kk
    have q8 := WS_8 hW
    have q9 := WS_128 hW
    refine x_il1 (pc := 44) rfl rfl ?_
    refine x_const (pc := 45) (pc' := 48) (.int (nI 128)) rfl rfl rfl rfl ?_
    refine x_cmpN_ge (pc := 48) (t := 79) rfl rfl (by omega) (by omega) (fun c48 => ?_) (fun c48 => ?_)
    · omega
    · refine x_al1 (pc := 51) rfl rfl ?_
      refine g_1_1 (pc := 52) rfl rfl ?_
      refine x_k (pc := 55) rfl rfl rfl ⟨Nat.le_of_ble_eq_true rfl, Nat.le_of_ble_eq_true rfl, Nat.le_of_ble_eq_true rfl⟩ rfl (rs_end (I := I) (A := A) hW (by omega) hR ?_)
      show mq 35 58 [some (.ref 1), some (.ref 23), some (.int (nI x)), some (.int (nI j))] [.int (nI 0)] (hS n u I A J B mk sn L xs X) _
      refine x_ifN_eq (pc := 58) (t := 79) rfl rfl (by decide) (fun _ => ?_) (fun c => absurd c (by decide))
      rw [show j = c by omega] at hnx
      exact kk I A j (Fr_refl _ _) (Fr_refl _ _) hnx hK
  | succ z ih =>
    intro j e a I A h hz hR he hnx hK kk
    have hj : j < c := by omega
    have q8 := WS_8 hW
    have q9 := WS_128 hW
    refine x_il1 (pc := 44) rfl rfl ?_
    refine x_const (pc := 45) (pc' := 48) (.int (nI 128)) rfl rfl rfl rfl ?_
    refine x_cmpN_ge (pc := 48) (t := 79) rfl rfl (by omega) (by omega) (fun c48 => ?_) (fun c48 => ?_)
    · omega
    · refine x_al1 (pc := 51) rfl rfl ?_
      refine g_1_1 (pc := 52) rfl rfl ?_
      refine x_k (pc := 55) rfl rfl rfl ⟨Nat.le_of_ble_eq_true rfl, Nat.le_of_ble_eq_true rfl, Nat.le_of_ble_eq_true rfl⟩ rfl (rs_step (I := I) (A := A) h hs hW hj hR he (fun I1 A1 f1 g1 hR1 e7 e10 hb => ?_))
      show mq 35 58 [some (.ref 1), some (.ref 23), some (.int (nI x)), some (.int (nI j))] [.int (nI 1)] (hS n u I1 A1 J B mk sn L xs X) _
      refine x_ifN_eq (pc := 58) (t := 79) rfl rfl (by decide) (fun c => absurd c (by decide)) (fun _ => ?_)
      refine x_al1 (pc := 61) rfl rfl ?_
      refine x_al1 (pc := 62) rfl rfl ?_
      refine x_al1 (pc := 63) rfl rfl ?_
      refine g_1_1 (pc := 64) rfl rfl ?_
      refine g_4_1 (pc := 67) rfl rfl ?_
      refine x_k (pc := 70) rfl rfl rfl ⟨Nat.le_of_ble_eq_true rfl, Nat.le_of_ble_eq_true rfl, Nat.le_of_ble_eq_true rfl⟩ rfl (k_45_2 (I := I1) (A := A1) (b := bB D s) (q := sb D s j) (a := a) (WS_b hW hj).1 (WS_b hW hj).2.1 hb (h.2.1 _) (KC_fr hK g1 (by decide)) (fun I2 A2 f2 g2 y2 k2 => ?_))
      show mq 35 73 [some (.ref 1), some (.ref 23), some (.int (nI x)), some (.int (nI j))] [] (hS n u I2 A2 J B mk sn L xs X) _
      refine x_iincN (pc := 73) (c := 1) (ml' := [some (.ref 1), some (.ref 23), some (.int (nI x)), some (.int (nI (j + 1)))]) rfl rfl rfl rfl ?_
      refine x_step (pc := 76) (pc' := 44) rfl rfl rfl rfl ?_
      exact ih (j + 1) (eN e (pb D s j)) _ (I := I2) (A := A2) (by rw [g2 0 (by decide), g1 0 (by decide)]; exact h) (by omega) (RS_fr hR1 f2 (by decide) (by decide) (by decide) (by decide) (by decide)) (eN_lt he (pb_le hW (by omega))) y2 k2 (fun I3 A3 y f3 g3 y3 k3 => kk I3 A3 y (Fr_cons (Fr_cons (Fr_cons (Fr_refl _ _) f1 (by decide)) f2 (by decide)) f3 (by decide)) (Fr_cons (Fr_cons (Fr_cons (Fr_refl _ _) g1 (by decide)) g2 (by decide)) g3 (by decide)) y3 k3)
set_option maxRecDepth 100000 in
set_option maxHeartbeats 4000000 in
theorem l_35_2 {cn : Nat} {f bc : Nat → Nat} (hcn : cn ≤ 16) (hf : ∀ k, k < cn → f k < 16 ∧ WS D (f k) (bc (f k))) {Q : mO × mHp → Prop} : ∀ (z k : Nat) (w3 : Option Value) (a : Nat → KT) {I : Nat → Int32} {A : Nat → Nat → Int32}, (DK (A 0) D) → (k + z = cn) → (I 46 = nI cn) → (∀ j, j < cn → A 38 j = nI (f j)) → (I 48 = nxO D f bc k) → (KC 2 A a) → (∀ I' A' w', Fr [4, 5, 6, 7, 8, 9, 10, 20, 21, 22, 48] I I' → Fr [10, 11, 12, 13, 14, 39, 40, 41] A A' → I' 48 = nxO D f bc cn → KC 2 A' (lnL D f bc z k a) → mq 35 85 [some (.ref 1), some (.ref 23), some (.int (nI cn)), w'] [] (hS n u I' A' J B mk sn L xs X) Q) → mq 35 2 [some (.ref 1), some (.ref 23), some (.int (nI k)), w3] [] (hS n u I A J B mk sn L xs X) Q := by
  intro z
  induction z with
  | zero =>
    intro k w3 a I A h hz hc hsl hnx hK kk
    refine x_il1 (pc := 2) rfl rfl ?_
    refine x_al1 (pc := 3) rfl rfl ?_
    refine g_23_5 (pc := 4) (v := nI cn) rfl rfl hc ?_
    refine x_cmpN_ge (pc := 7) (t := 85) rfl rfl (by omega) (by omega) (fun c7 => ?_) (fun c7 => ?_)
    · rw [show k = cn by omega] at hnx
      rw [show k = cn by omega]
      exact kk I A w3 (Fr_refl _ _) (Fr_refl _ _) hnx hK
    · omega
  | succ z ih =>
    intro k w3 a I A h hz hc hsl hnx hK kk
    refine x_il1 (pc := 2) rfl rfl ?_
    refine x_al1 (pc := 3) rfl rfl ?_
    refine g_23_5 (pc := 4) (v := nI cn) rfl rfl hc ?_
    refine x_cmpN_ge (pc := 7) (t := 85) rfl rfl (by omega) (by omega) (fun c7 => ?_) (fun c7 => ?_)
    · omega
    · refine x_al1 (pc := 10) rfl rfl ?_
      refine x_al1 (pc := 11) rfl rfl ?_
      refine g_1_0 (pc := 12) rfl rfl ?_
      refine x_al1 (pc := 15) rfl rfl ?_
      refine g_23_1 (pc := 16) rfl rfl ?_
      refine x_il1 (pc := 19) rfl rfl ?_
      refine al_24 (pc := 20) (q := k) (v := nI (f k)) rfl rfl (by omega) (hsl k (by omega)) ?_
      refine x_k (pc := 21) rfl rfl rfl ⟨Nat.le_of_ble_eq_true rfl, Nat.le_of_ble_eq_true rfl, Nat.le_of_ble_eq_true rfl⟩ rfl (mq_k (c_22 h (hf k (by omega)).1) ?_)
      show mq 35 24 [some (.ref 1), some (.ref 23), some (.int (nI k)), w3] [.int (nI (bB D (f k))), .ref 23] (hS n u I A J B mk sn L xs X) _
      refine p_23_7 (pc := 24) rfl rfl ?_
      refine x_al1 (pc := 27) rfl rfl ?_
      refine g_1_1 (pc := 28) rfl rfl ?_
      refine x_al1 (pc := 31) rfl rfl ?_
      refine g_23_1 (pc := 32) rfl rfl ?_
      refine x_il1 (pc := 35) rfl rfl ?_
      refine al_24 (pc := 36) (q := k) (v := nI (f k)) rfl rfl (by omega) (hsl k (by omega)) ?_
      refine x_const (pc := 37) (pc' := 39) (.int (nI 8)) rfl rfl rfl rfl ?_
      refine x_k (pc := 39) rfl rfl rfl ⟨Nat.le_of_ble_eq_true rfl, Nat.le_of_ble_eq_true rfl, Nat.le_of_ble_eq_true rfl⟩ rfl (rs_open (I := va_up I 48 (nI (bB D (f k)))) (A := A) (j := 0) h (hf k (by omega)).1 (hf k (by omega)).2 (Nat.zero_le _) (pb_0 D (f k)).symm (fun I1 f1 hR => ?_))
      show mq 35 42 [some (.ref 1), some (.ref 23), some (.int (nI k)), w3] [] (hS n u I1 A J B mk sn L xs X) _
      refine x_const (pc := 42) (pc' := 43) (.int (nI 0)) rfl rfl rfl rfl ?_
      refine x_is1 (pc := 43) (ml' := [some (.ref 1), some (.ref 23), some (.int (nI k)), some (.int (nI 0))]) rfl rfl ?_
      refine l_35b_2 (I := I1) (A := A) (x := k) (s := f k) (c := bc (f k)) (hf k (by omega)).1 (hf k (by omega)).2 (bc (f k)) 0 8 _ h (Nat.zero_add _) hR (by decide) ((f1 48 (by decide)).trans rfl) hK (fun I2 A2 y f2 g2 y2 k2 => ?_)
      refine x_iincN (pc := 79) (c := 1) (ml' := [some (.ref 1), some (.ref 23), some (.int (nI (k + 1))), some (.int (nI y))]) rfl rfl rfl rfl ?_
      refine x_step (pc := 82) (pc' := 2) rfl rfl rfl rfl ?_
      have en : nxO D f bc (k + 1) = nxB D (f k) (bc (f k)) := (if_neg (Nat.succ_ne_zero k)).trans rfl
      exact ih (k + 1) _ _ (I := I2) (A := A2) (by rw [g2 0 (by decide)]; exact h) (by omega) ((f2 46 (by decide)).trans ((f1 46 (by decide)).trans hc)) (fun j hj => by rw [g2 38 (by decide)]; exact hsl j hj) (y2.trans en.symm) k2 (fun I3 A3 w f3 g3 y3 k3 => kk I3 A3 w (Fr_cons (Fr_cons (Fr_cons (Fr_u (Fr_refl _ _) (by decide)) f1 (by decide)) f2 (by decide)) f3 (by decide)) (Fr_cons (Fr_cons (Fr_refl _ _) g2 (by decide)) g3 (by decide)) y3 k3)
set_option maxRecDepth 100000 in
set_option maxHeartbeats 4000000 in
theorem k_35_2 (h : DK (A 0) D) {cn : Nat} {f bc : Nat → Nat} {a : Nat → KT} (hcn : cn ≤ 16) (hf : ∀ k, k < cn → f k < 16 ∧ WS D (f k) (bc (f k))) (hc : I 46 = nI cn) (hsl : ∀ j, j < cn → A 38 j = nI (f j)) (hnx : I 48 = nI 0) (hst : I 47 = nI 0) (hK : KC 2 A a) {Q : mO × mHp → Prop} (kk : ∀ I' A', Fr [4, 5, 6, 7, 8, 9, 10, 20, 21, 22, 47, 48] I I' → Fr [10, 11, 12, 13, 14, 39, 40, 41] A A' → I' 48 = nxO D f bc cn → I' 47 = stO D f 2 cn → KC 2 A' (lnL D f bc cn 0 a) → Q (.inl none, hS n u I' A' J B mk sn L xs X)) : mq 35 0 [some (.ref 1), some (.ref 23), none, none] [] (hS n u I A J B mk sn L xs X) Q := by
  refine x_const (pc := 0) (pc' := 1) (.int (nI 0)) rfl rfl rfl rfl ?_
  refine x_is1 (pc := 1) (ml' := [some (.ref 1), some (.ref 23), some (.int (nI 0)), none]) rfl rfl ?_
  refine l_35_2 (I := I) (A := A) (f := f) (bc := bc) hcn hf cn 0 none a h (Nat.zero_add _) hc hsl hnx hK (fun I2 A2 w f2 g2 y2 k2 => ?_)
  refine x_al1 (pc := 85) rfl rfl ?_
  refine g_23_0 (pc := 86) rfl rfl ?_
  refine x_const (pc := 89) (pc' := 90) (.int (nI 2)) rfl rfl rfl rfl ?_
  refine x_cmpN_ge (pc := 90) (t := 117) rfl rfl (by decide) (by decide) (fun _ => ?_) (fun c => absurd c (by decide))
  refine x_ret (pc := 117) rfl rfl ?_
  exact kk _ _ (Fr_cons (Fr_refl _ _) f2 (by decide)) (Fr_cons (Fr_refl _ _) g2 (by decide)) y2 ((f2 47 (by decide)).trans (hst.trans (show nI 0 = nI (if 1 < 2 ∨ cn = 0 then 0 else bB D (f 0)) by rw [if_pos (by omega)]))) k2
set_option maxRecDepth 100000 in
set_option maxHeartbeats 4000000 in
theorem l_45_3 {b q : Nat} (hm : bN D q ≤ 4) (hky : ∀ k, k < bN D q → uN (kR D q k) < 32) {Q : mO × mHp → Prop} : ∀ (z k : Nat) (w5 : Option Value) {I : Nat → Int32} {A : Nat → Nat → Int32}, (k + z = bN D q) → (RB I A D b q) → (∀ I' A' w', Fr [51] I I' → Fr [1] A A' → A' 1 = cm1 D q z k (A 1) → I' 51 = (if z = 0 then I 51 else oR D b q (bN D q - 1) + 1) → mq 45 93 [some (.ref 1), some (.ref 28), some (.ref 5), some (.ref 6), some (.int (nI (bN D q))), w'] [] (hS n u I' A' J B mk sn L xs X) Q) → mq 45 19 [some (.ref 1), some (.ref 28), some (.ref 5), some (.ref 6), some (.int (nI k)), w5] [] (hS n u I A J B mk sn L xs X) Q := by
  intro z
  induction z with
  | zero =>
    intro k w5 I A hz hR kk
    refine x_il2 (pc := 19) rfl rfl ?_
    refine x_al1 (pc := 21) rfl rfl ?_
    refine g_6_5 (pc := 22) (v := nI (bN D q)) rfl rfl hR.2.2.1 ?_
    refine x_cmpN_ge (pc := 25) (t := 93) rfl rfl (by omega) (by omega) (fun c25 => ?_) (fun c25 => ?_)
    · rw [show k = bN D q by omega]
      exact kk I A w5 (Fr_refl _ _) (Fr_refl _ _) rfl rfl
    · omega
  | succ z ih =>
    intro k w5 I A hz hR kk
    refine x_il2 (pc := 19) rfl rfl ?_
    refine x_al1 (pc := 21) rfl rfl ?_
    refine g_6_5 (pc := 22) (v := nI (bN D q)) rfl rfl hR.2.2.1 ?_
    refine x_cmpN_ge (pc := 25) (t := 93) rfl rfl (by omega) (by omega) (fun c25 => ?_) (fun c25 => ?_)
    · omega
    · refine x_al1 (pc := 28) rfl rfl ?_
      refine x_al1 (pc := 29) rfl rfl ?_
      refine g_6_0 (pc := 30) rfl rfl ?_
      refine x_il2 (pc := 33) rfl rfl ?_
      refine al_7 (pc := 35) (q := k) (v := oR D b q k) rfl rfl (by omega) ((hR.2.2.2 k (by omega)).1) ?_
      refine x_const (pc := 36) (pc' := 37) (.int (nI 1)) rfl rfl rfl rfl ?_
      refine x_iadd (pc := 37) rfl rfl ?_
      refine p_28_7 (pc := 38) rfl rfl ?_
      refine x_al1 (pc := 41) rfl rfl ?_
      refine g_6_2 (pc := 42) rfl rfl ?_
      refine x_il2 (pc := 45) rfl rfl ?_
      refine al_9 (pc := 47) (q := k) (v := nI (uN (kR D q k))) rfl rfl (by omega) (((hR.2.2.2 k (by omega)).2.2.1).trans (nI_uN _).symm) ?_
      refine x_is2 (pc := 48) (ml' := [some (.ref 1), some (.ref 28), some (.ref 5), some (.ref 6), some (.int (nI k)), some (.int (nI (uN (kR D q k))))]) rfl rfl ?_
      refine x_al1 (pc := 50) rfl rfl ?_
      refine g_28_0 (pc := 51) rfl rfl ?_
      refine x_const (pc := 54) (pc' := 55) (.int (nI 3)) rfl rfl rfl rfl ?_
      refine x_cmpN_ne (pc := 55) (t := 87) rfl rfl (by decide) (by decide) (fun c => absurd c (by decide)) (fun _ => ?_)
      refine x_il2 (pc := 58) rfl rfl ?_
      refine x_ifN_lt (pc := 60) (t := 87) rfl rfl (by have := hky k (by omega); omega) ?_
      refine x_il2 (pc := 63) rfl rfl ?_
      refine x_al1 (pc := 65) rfl rfl ?_
      refine g_1_3 (pc := 66) rfl rfl ?_
      refine ln_33 (pc := 69) rfl ?_
      refine x_cmpN_ge (pc := 70) (t := 87) rfl rfl (by have := hky k (by omega); omega) (by decide) (fun c70 => ?_) (fun c70 => ?_)
      · exact absurd (hky k (by omega)) (by omega)
      · refine x_al1 (pc := 73) rfl rfl ?_
        refine g_1_3 (pc := 74) rfl rfl ?_
        refine x_il2 (pc := 77) rfl rfl ?_
        refine x_al1 (pc := 79) rfl rfl ?_
        refine g_6_3 (pc := 80) rfl rfl ?_
        refine x_il2 (pc := 83) rfl rfl ?_
        refine al_10 (pc := 85) (q := k) (v := vR D q k) rfl rfl (by omega) ((hR.2.2.2 k (by omega)).2.2.2.1) ?_
        refine as_33 (pc := 86) (q := uN (kR D q k)) rfl rfl (by have := hky k (by omega); omega) ?_
        refine x_iincN (pc := 87) (c := 1) (ml' := [some (.ref 1), some (.ref 28), some (.ref 5), some (.ref 6), some (.int (nI (k + 1))), some (.int (nI (uN (kR D q k))))]) rfl rfl rfl rfl ?_
        refine x_step (pc := 90) (pc' := 19) rfl rfl rfl rfl ?_
        refine ih (k + 1) _ (I := va_up I 51 ((oR D b q k) + (nI 1))) (A := va_up A 1 (upd (A 1) (uN (kR D q k)) (vR D q k))) (by omega) (RB_fr hR (show Fr [51] I (va_up I 51 ((oR D b q k) + (nI 1))) from (Fr_u (Fr_refl _ _) (by decide))) (show Fr [1] A (va_up A 1 (upd (A 1) (uN (kR D q k)) (vR D q k))) from (Fr_u (Fr_refl _ _) (by decide))) (by decide) (by decide)) (fun I2 A2 w2 f2 g2 x2 y2 => kk I2 A2 w2 (Fr_cons (Fr_u (Fr_refl _ _) (by decide)) f2 (by decide)) (Fr_cons (Fr_u (Fr_refl _ _) (by decide)) g2 (by decide)) x2 ?_)
        rw [y2, if_neg (Nat.succ_ne_zero z)]
        by_cases h0 : z = 0
        · rw [if_pos h0, show bN D q - 1 = k by omega]
          rfl
        · rw [if_neg h0]
set_option maxRecDepth 100000 in
set_option maxHeartbeats 4000000 in
theorem k_45_3 {b q : Nat} {a : Nat → KT} (hm1 : 1 ≤ bN D q) (hm : bN D q ≤ 4) (hky : ∀ k, k < bN D q → uN (kR D q k) < 32) (hR : RB I A D b q) (hpb : bP D q < 256) (hK : KC 3 A a) {Q : mO × mHp → Prop} (kk : ∀ I' A', Fr [51] I I' → Fr [1, 43, 44, 45] A A' → A' 1 = cm1 D q (bN D q) 0 (A 1) → I' 51 = oR D b q (bN D q - 1) + 1 → KC 3 A' (ln1 D b q a) → Q (.inl none, hS n u I' A' J B mk sn L xs X)) : mq 45 0 [some (.ref 1), some (.ref 28), some (.ref 5), none, none, none] [] (hS n u I A J B mk sn L xs X) Q := by
  by_cases hp : bP D q < 8
  · refine x_al1 (pc := 0) rfl rfl ?_
    refine g_5_0 (pc := 1) rfl rfl ?_
    refine x_as1 (pc := 4) (ml' := [some (.ref 1), some (.ref 28), some (.ref 5), some (.ref 6), none, none]) rfl rfl ?_
    refine x_al1 (pc := 5) rfl rfl ?_
    refine x_al1 (pc := 6) rfl rfl ?_
    refine x_al1 (pc := 7) rfl rfl ?_
    refine g_6_0 (pc := 8) rfl rfl ?_
    refine x_const (pc := 11) (pc' := 12) (.int (nI 0)) rfl rfl rfl rfl ?_
    refine al_7 (pc := 12) (q := 0) (v := oR D b q 0) rfl rfl (by decide) ((hR.2.2.2 0 (by omega)).1) ?_
    refine x_k (pc := 13) rfl rfl rfl ⟨Nat.le_of_ble_eq_true rfl, Nat.le_of_ble_eq_true rfl, Nat.le_of_ble_eq_true rfl⟩ rfl (k_46_3_0 (I := I) (A := A) (p := bP D q) (m := bN D q) (q := bS D q) (o := oR D b q 0) hR.1 hp hR.2.1 hR.2.2.1 (fun A1 g1 u1 v1 w1 => ?_))
    show mq 45 16 [some (.ref 1), some (.ref 28), some (.ref 5), some (.ref 6), none, none] [] (hS n u I A1 J B mk sn L xs X) _
    refine x_const (pc := 16) (pc' := 17) (.int (nI 0)) rfl rfl rfl rfl ?_
    refine x_is2 (pc := 17) (ml' := [some (.ref 1), some (.ref 28), some (.ref 5), some (.ref 6), some (.int (nI 0)), none]) rfl rfl ?_
    refine l_45_3 (I := I) (A := A1) (b := b) (q := q) hm hky (bN D q) 0 none (Nat.zero_add _) (RB_fr hR (Fr_refl [] I) g1 (by decide) (by decide)) (fun I2 A2 w2 f2 g2 x2 y2 => ?_)
    rw [if_neg (by omega)] at y2
    refine x_ret (pc := 93) rfl rfl ?_
    exact kk I2 A2 (Fr_cons (Fr_refl _ _) f2 (by decide)) (Fr_cons (Fr_cons (Fr_refl _ _) g1 (by decide)) g2 (by decide)) (by rw [x2, g1 1 (by decide)]) y2 (KC_fr (KC_s hK hp u1 v1 w1 (fun p => by unfold ln1; by_cases h9 : p = bP D q; rw [if_pos ⟨hp, h9⟩, if_pos h9]; rw [if_neg (fun w => h9 w.2), if_neg h9])) g2 (by decide))
  · refine x_al1 (pc := 0) rfl rfl ?_
    refine g_5_0 (pc := 1) rfl rfl ?_
    refine x_as1 (pc := 4) (ml' := [some (.ref 1), some (.ref 28), some (.ref 5), some (.ref 6), none, none]) rfl rfl ?_
    refine x_al1 (pc := 5) rfl rfl ?_
    refine x_al1 (pc := 6) rfl rfl ?_
    refine x_al1 (pc := 7) rfl rfl ?_
    refine g_6_0 (pc := 8) rfl rfl ?_
    refine x_const (pc := 11) (pc' := 12) (.int (nI 0)) rfl rfl rfl rfl ?_
    refine al_7 (pc := 12) (q := 0) (v := oR D b q 0) rfl rfl (by decide) ((hR.2.2.2 0 (by omega)).1) ?_
    refine x_k (pc := 13) rfl rfl rfl ⟨Nat.le_of_ble_eq_true rfl, Nat.le_of_ble_eq_true rfl, Nat.le_of_ble_eq_true rfl⟩ rfl (k_46n_3_0 (I := I) (A := A) (p := bP D q) (o := oR D b q 0) hR.1 ⟨Nat.le_of_not_lt hp, hpb⟩ ?_)
    show mq 45 16 [some (.ref 1), some (.ref 28), some (.ref 5), some (.ref 6), none, none] [] (hS n u I A J B mk sn L xs X) _
    refine x_const (pc := 16) (pc' := 17) (.int (nI 0)) rfl rfl rfl rfl ?_
    refine x_is2 (pc := 17) (ml' := [some (.ref 1), some (.ref 28), some (.ref 5), some (.ref 6), some (.int (nI 0)), none]) rfl rfl ?_
    refine l_45_3 (I := I) (A := A) (b := b) (q := q) hm hky (bN D q) 0 none (Nat.zero_add _) hR (fun I2 A2 w2 f2 g2 x2 y2 => ?_)
    rw [if_neg (by omega)] at y2
    refine x_ret (pc := 93) rfl rfl ?_
    exact kk I2 A2 (Fr_cons (Fr_refl _ _) f2 (by decide)) (Fr_cons (Fr_refl _ _) g2 (by decide)) x2 y2 (KC_fr (by rw [show ln1 D b q a = a from funext (fun p => if_neg (fun w => hp w.1))]; exact hK) g2 (by decide))
set_option maxRecDepth 100000 in
set_option maxHeartbeats 4000000 in
theorem l_35b_3 {x s c : Nat} (hs : s < 16) (hW : WS D s c) (hky : ∀ j, j < c → ∀ k, k < bN D (sb D s j) → uN (kR D (sb D s j) k) < 32) {Q : mO × mHp → Prop} : ∀ (z j e : Nat) (a : Nat → KT) {I : Nat → Int32} {A : Nat → Nat → Int32}, (DK (A 0) D) → (j + z = c) → (RS I D s j e) → (e < 1000) → (I 51 = nxB D s j) → (KC 3 A a) → (∀ I' A' y, Fr [7, 8, 9, 10, 20, 21, 22, 51] I I' → Fr [1, 10, 11, 12, 13, 14, 43, 44, 45] A A' → A' 1 = cmS D s z j (A 1) → I' 51 = nxB D s c → KC 3 A' (lnS D s z j a) → mq 35 79 [some (.ref 1), some (.ref 28), some (.int (nI x)), some (.int (nI y))] [] (hS n u I' A' J B mk sn L xs X) Q) → mq 35 44 [some (.ref 1), some (.ref 28), some (.int (nI x)), some (.int (nI j))] [] (hS n u I A J B mk sn L xs X) Q := by
  intro z
  induction z with
  | zero =>
    intro j e a I A h hz hR he hnx hK kk
    have q8 := WS_8 hW
    have q9 := WS_128 hW
    refine x_il1 (pc := 44) rfl rfl ?_
    refine x_const (pc := 45) (pc' := 48) (.int (nI 128)) rfl rfl rfl rfl ?_
    refine x_cmpN_ge (pc := 48) (t := 79) rfl rfl (by omega) (by omega) (fun c48 => ?_) (fun c48 => ?_)
    · omega
    · refine x_al1 (pc := 51) rfl rfl ?_
      refine g_1_1 (pc := 52) rfl rfl ?_
      refine x_k (pc := 55) rfl rfl rfl ⟨Nat.le_of_ble_eq_true rfl, Nat.le_of_ble_eq_true rfl, Nat.le_of_ble_eq_true rfl⟩ rfl (rs_end (I := I) (A := A) hW (by omega) hR ?_)
      show mq 35 58 [some (.ref 1), some (.ref 28), some (.int (nI x)), some (.int (nI j))] [.int (nI 0)] (hS n u I A J B mk sn L xs X) _
      refine x_ifN_eq (pc := 58) (t := 79) rfl rfl (by decide) (fun _ => ?_) (fun c => absurd c (by decide))
      rw [show j = c by omega] at hnx
      exact kk I A j (Fr_refl _ _) (Fr_refl _ _) rfl hnx hK
  | succ z ih =>
    intro j e a I A h hz hR he hnx hK kk
    have hj : j < c := by omega
    have q8 := WS_8 hW
    have q9 := WS_128 hW
    refine x_il1 (pc := 44) rfl rfl ?_
    refine x_const (pc := 45) (pc' := 48) (.int (nI 128)) rfl rfl rfl rfl ?_
    refine x_cmpN_ge (pc := 48) (t := 79) rfl rfl (by omega) (by omega) (fun c48 => ?_) (fun c48 => ?_)
    · omega
    · refine x_al1 (pc := 51) rfl rfl ?_
      refine g_1_1 (pc := 52) rfl rfl ?_
      refine x_k (pc := 55) rfl rfl rfl ⟨Nat.le_of_ble_eq_true rfl, Nat.le_of_ble_eq_true rfl, Nat.le_of_ble_eq_true rfl⟩ rfl (rs_step (I := I) (A := A) h hs hW hj hR he (fun I1 A1 f1 g1 hR1 e7 e10 hb => ?_))
      show mq 35 58 [some (.ref 1), some (.ref 28), some (.int (nI x)), some (.int (nI j))] [.int (nI 1)] (hS n u I1 A1 J B mk sn L xs X) _
      refine x_ifN_eq (pc := 58) (t := 79) rfl rfl (by decide) (fun c => absurd c (by decide)) (fun _ => ?_)
      refine x_al1 (pc := 61) rfl rfl ?_
      refine x_al1 (pc := 62) rfl rfl ?_
      refine x_al1 (pc := 63) rfl rfl ?_
      refine g_1_1 (pc := 64) rfl rfl ?_
      refine g_4_1 (pc := 67) rfl rfl ?_
      refine x_k (pc := 70) rfl rfl rfl ⟨Nat.le_of_ble_eq_true rfl, Nat.le_of_ble_eq_true rfl, Nat.le_of_ble_eq_true rfl⟩ rfl (k_45_3 (I := I1) (A := A1) (b := bB D s) (q := sb D s j) (a := a) (WS_b hW hj).1 (WS_b hW hj).2.1 (hky j hj) hb (h.2.1 _) (KC_fr hK g1 (by decide)) (fun I2 A2 f2 g2 x2 y2 k2 => ?_))
      show mq 35 73 [some (.ref 1), some (.ref 28), some (.int (nI x)), some (.int (nI j))] [] (hS n u I2 A2 J B mk sn L xs X) _
      refine x_iincN (pc := 73) (c := 1) (ml' := [some (.ref 1), some (.ref 28), some (.int (nI x)), some (.int (nI (j + 1)))]) rfl rfl rfl rfl ?_
      refine x_step (pc := 76) (pc' := 44) rfl rfl rfl rfl ?_
      exact ih (j + 1) (eN e (pb D s j)) _ (I := I2) (A := A2) (by rw [g2 0 (by decide), g1 0 (by decide)]; exact h) (by omega) (RS_fr hR1 f2 (by decide) (by decide) (by decide) (by decide) (by decide)) (eN_lt he (pb_le hW (by omega))) y2 k2 (fun I3 A3 y f3 g3 x3 y3 k3 => kk I3 A3 y (Fr_cons (Fr_cons (Fr_cons (Fr_refl _ _) f1 (by decide)) f2 (by decide)) f3 (by decide)) (Fr_cons (Fr_cons (Fr_cons (Fr_refl _ _) g1 (by decide)) g2 (by decide)) g3 (by decide)) (by rw [x3, x2, g1 1 (by decide)]; rfl) y3 k3)
set_option maxRecDepth 100000 in
set_option maxHeartbeats 4000000 in
theorem l_35_3 {cn : Nat} {f bc : Nat → Nat} (hcn : cn ≤ 16) (hf : ∀ k, k < cn → f k < 16 ∧ WS D (f k) (bc (f k))) (hky : ∀ k, k < cn → ∀ j, j < bc (f k) → ∀ r, r < bN D (sb D (f k) j) → uN (kR D (sb D (f k) j) r) < 32) {Q : mO × mHp → Prop} : ∀ (z k : Nat) (w3 : Option Value) (a : Nat → KT) {I : Nat → Int32} {A : Nat → Nat → Int32}, (DK (A 0) D) → (k + z = cn) → (I 49 = nI cn) → (∀ j, j < cn → A 42 j = nI (f j)) → (I 51 = nxO D f bc k) → (KC 3 A a) → (∀ I' A' w', Fr [4, 5, 6, 7, 8, 9, 10, 20, 21, 22, 51] I I' → Fr [1, 10, 11, 12, 13, 14, 43, 44, 45] A A' → A' 1 = cmL D f bc z k (A 1) → I' 51 = nxO D f bc cn → KC 3 A' (lnL D f bc z k a) → mq 35 85 [some (.ref 1), some (.ref 28), some (.int (nI cn)), w'] [] (hS n u I' A' J B mk sn L xs X) Q) → mq 35 2 [some (.ref 1), some (.ref 28), some (.int (nI k)), w3] [] (hS n u I A J B mk sn L xs X) Q := by
  intro z
  induction z with
  | zero =>
    intro k w3 a I A h hz hc hsl hnx hK kk
    refine x_il1 (pc := 2) rfl rfl ?_
    refine x_al1 (pc := 3) rfl rfl ?_
    refine g_28_5 (pc := 4) (v := nI cn) rfl rfl hc ?_
    refine x_cmpN_ge (pc := 7) (t := 85) rfl rfl (by omega) (by omega) (fun c7 => ?_) (fun c7 => ?_)
    · rw [show k = cn by omega] at hnx
      rw [show k = cn by omega]
      exact kk I A w3 (Fr_refl _ _) (Fr_refl _ _) rfl hnx hK
    · omega
  | succ z ih =>
    intro k w3 a I A h hz hc hsl hnx hK kk
    refine x_il1 (pc := 2) rfl rfl ?_
    refine x_al1 (pc := 3) rfl rfl ?_
    refine g_28_5 (pc := 4) (v := nI cn) rfl rfl hc ?_
    refine x_cmpN_ge (pc := 7) (t := 85) rfl rfl (by omega) (by omega) (fun c7 => ?_) (fun c7 => ?_)
    · omega
    · refine x_al1 (pc := 10) rfl rfl ?_
      refine x_al1 (pc := 11) rfl rfl ?_
      refine g_1_0 (pc := 12) rfl rfl ?_
      refine x_al1 (pc := 15) rfl rfl ?_
      refine g_28_1 (pc := 16) rfl rfl ?_
      refine x_il1 (pc := 19) rfl rfl ?_
      refine al_29 (pc := 20) (q := k) (v := nI (f k)) rfl rfl (by omega) (hsl k (by omega)) ?_
      refine x_k (pc := 21) rfl rfl rfl ⟨Nat.le_of_ble_eq_true rfl, Nat.le_of_ble_eq_true rfl, Nat.le_of_ble_eq_true rfl⟩ rfl (mq_k (c_22 h (hf k (by omega)).1) ?_)
      show mq 35 24 [some (.ref 1), some (.ref 28), some (.int (nI k)), w3] [.int (nI (bB D (f k))), .ref 28] (hS n u I A J B mk sn L xs X) _
      refine p_28_7 (pc := 24) rfl rfl ?_
      refine x_al1 (pc := 27) rfl rfl ?_
      refine g_1_1 (pc := 28) rfl rfl ?_
      refine x_al1 (pc := 31) rfl rfl ?_
      refine g_28_1 (pc := 32) rfl rfl ?_
      refine x_il1 (pc := 35) rfl rfl ?_
      refine al_29 (pc := 36) (q := k) (v := nI (f k)) rfl rfl (by omega) (hsl k (by omega)) ?_
      refine x_const (pc := 37) (pc' := 39) (.int (nI 8)) rfl rfl rfl rfl ?_
      refine x_k (pc := 39) rfl rfl rfl ⟨Nat.le_of_ble_eq_true rfl, Nat.le_of_ble_eq_true rfl, Nat.le_of_ble_eq_true rfl⟩ rfl (rs_open (I := va_up I 51 (nI (bB D (f k)))) (A := A) (j := 0) h (hf k (by omega)).1 (hf k (by omega)).2 (Nat.zero_le _) (pb_0 D (f k)).symm (fun I1 f1 hR => ?_))
      show mq 35 42 [some (.ref 1), some (.ref 28), some (.int (nI k)), w3] [] (hS n u I1 A J B mk sn L xs X) _
      refine x_const (pc := 42) (pc' := 43) (.int (nI 0)) rfl rfl rfl rfl ?_
      refine x_is1 (pc := 43) (ml' := [some (.ref 1), some (.ref 28), some (.int (nI k)), some (.int (nI 0))]) rfl rfl ?_
      refine l_35b_3 (I := I1) (A := A) (x := k) (s := f k) (c := bc (f k)) (hf k (by omega)).1 (hf k (by omega)).2 (hky k (by omega)) (bc (f k)) 0 8 _ h (Nat.zero_add _) hR (by decide) ((f1 51 (by decide)).trans rfl) hK (fun I2 A2 y f2 g2 x2 y2 k2 => ?_)
      refine x_iincN (pc := 79) (c := 1) (ml' := [some (.ref 1), some (.ref 28), some (.int (nI (k + 1))), some (.int (nI y))]) rfl rfl rfl rfl ?_
      refine x_step (pc := 82) (pc' := 2) rfl rfl rfl rfl ?_
      have en : nxO D f bc (k + 1) = nxB D (f k) (bc (f k)) := (if_neg (Nat.succ_ne_zero k)).trans rfl
      exact ih (k + 1) _ _ (I := I2) (A := A2) (by rw [g2 0 (by decide)]; exact h) (by omega) ((f2 49 (by decide)).trans ((f1 49 (by decide)).trans hc)) (fun j hj => by rw [g2 42 (by decide)]; exact hsl j hj) (y2.trans en.symm) k2 (fun I3 A3 w f3 g3 x3 y3 k3 => kk I3 A3 w (Fr_cons (Fr_cons (Fr_cons (Fr_u (Fr_refl _ _) (by decide)) f1 (by decide)) f2 (by decide)) f3 (by decide)) (Fr_cons (Fr_cons (Fr_refl _ _) g2 (by decide)) g3 (by decide)) (by rw [x3, x2]; rfl) y3 k3)
set_option maxRecDepth 100000 in
set_option maxHeartbeats 4000000 in
theorem k_35_3 (h : DK (A 0) D) {cn : Nat} {f bc : Nat → Nat} {a : Nat → KT} (hcn : cn ≤ 16) (hf : ∀ k, k < cn → f k < 16 ∧ WS D (f k) (bc (f k))) (hky : ∀ k, k < cn → ∀ j, j < bc (f k) → ∀ r, r < bN D (sb D (f k) j) → uN (kR D (sb D (f k) j) r) < 32) (hc : I 49 = nI cn) (hsl : ∀ j, j < cn → A 42 j = nI (f j)) (hnx : I 51 = nI 0) (hst : I 50 = nI 0) (hK : KC 3 A a) {Q : mO × mHp → Prop} (kk : ∀ I' A', Fr [4, 5, 6, 7, 8, 9, 10, 20, 21, 22, 50, 51] I I' → Fr [1, 10, 11, 12, 13, 14, 43, 44, 45] A A' → A' 1 = cmL D f bc cn 0 (A 1) → I' 51 = nxO D f bc cn → I' 50 = stO D f 3 cn → KC 3 A' (lnL D f bc cn 0 a) → Q (.inl none, hS n u I' A' J B mk sn L xs X)) : mq 35 0 [some (.ref 1), some (.ref 28), none, none] [] (hS n u I A J B mk sn L xs X) Q := by
  refine x_const (pc := 0) (pc' := 1) (.int (nI 0)) rfl rfl rfl rfl ?_
  refine x_is1 (pc := 1) (ml' := [some (.ref 1), some (.ref 28), some (.int (nI 0)), none]) rfl rfl ?_
  refine l_35_3 (I := I) (A := A) (f := f) (bc := bc) hcn hf hky cn 0 none a h (Nat.zero_add _) hc hsl hnx hK (fun I2 A2 w f2 g2 x2 y2 k2 => ?_)
  refine x_al1 (pc := 85) rfl rfl ?_
  refine g_28_0 (pc := 86) rfl rfl ?_
  refine x_const (pc := 89) (pc' := 90) (.int (nI 2)) rfl rfl rfl rfl ?_
  refine x_cmpN_ge (pc := 90) (t := 117) rfl rfl (by decide) (by decide) (fun _ => ?_) (fun c => absurd c (by decide))
  refine x_ret (pc := 117) rfl rfl ?_
  exact kk _ _ (Fr_cons (Fr_refl _ _) f2 (by decide)) (Fr_cons (Fr_refl _ _) g2 (by decide)) x2 y2 ((f2 50 (by decide)).trans (hst.trans (show nI 0 = nI (if 1 < 3 ∨ cn = 0 then 0 else bB D (f 0)) by rw [if_pos (by omega)]))) k2
end S74
