/-! recover: the model. -/
def KM (l : Nat) (A : Nat → Nat → Int32) (a : Nat → KT) : Prop := ∀ p, p < 8 → A 55 (3 * (8 * l + p) + 1) = nI (a p).2.1 ∧ (¬ (a p).2.1 = 0 → A 55 (3 * (8 * l + p)) = (a p).1 ∧ A 55 (3 * (8 * l + p) + 2) = (a p).2.2)
def CMt (A : Nat → Nat → Int32) (c : Nat → Int32) : Prop := ∀ k, k < 32 → A 56 k = c k + 1
theorem knw_out {a : Nat → Int32} {l p m x : Nat} {q o : Int32} (hp : p < 8) (h : x < 24 * l ∨ 24 * l + 24 ≤ x) : knw a l p q m o x = a x := by
  unfold knw
  rw [pk_un (by omega), pk_un (by omega), pk_un (by omega)]
theorem KM_s {l p0 m : Nat} {A A' : Nat → Nat → Int32} {a a' : Nat → KT} {s o : Int32} (h : KM l A a) (hp0 : p0 < 8) (e : A' 55 = knw (A 55) l p0 s m o) (ha : ∀ p, a' p = if p = p0 then (s, m, o) else a p) : KM l A' a' := fun p hp => by
  rw [e, ha p]
  unfold knw
  by_cases h1 : p = p0
  · subst h1
    rw [if_pos rfl]
    exact ⟨(pk_un (by omega)).trans pk_us, fun _ => ⟨(pk_un (by omega)).trans ((pk_un (by omega)).trans pk_us), pk_us⟩⟩
  · rw [if_neg h1, pk_un (by omega), pk_un (by omega), pk_un (by omega), pk_un (by omega), pk_un (by omega), pk_un (by omega), pk_un (by omega), pk_un (by omega), pk_un (by omega)]
    exact h p hp
theorem KM_eq {l : Nat} {A A' : Nat → Nat → Int32} {a : Nat → KT} (h : KM l A a) (e : ∀ x, 24 * l ≤ x → x < 24 * l + 24 → A' 55 x = A 55 x) : KM l A' a := fun p hp => by
  rw [e _ (by omega) (by omega), e _ (by omega) (by omega), e _ (by omega) (by omega)]
  exact h p hp
/-- whether two slots are the same segment -/
def tw (D : Nat → Nat) (s q : Nat) : Bool := decide (0 < oB D s ∧ oB D q = oB D s ∧ bB D q = bB D s)
def mt1 (s : Nat) : Nat → Nat → DS → DS
  | 0, _, S => S
  | z + 1, q, S => mt1 s z (q + 1) (if tw (dD S) s q = true then wr1 S (owW (if gB (dD S) s = (gB (dD S) q + 1) % 2 ^ 8 then q else s) 0) else S)
def mtA : Nat → Nat → DS → DS
  | 0, _, S => S
  | z + 1, s, S => mtA z (s + 1) (mt1 s s 0 S)
theorem mt1_ok {s : Nat} : ∀ (z q : Nat) {S : DS}, NC S → HB (dD S) → NC (mt1 s z q S) ∧ HB (dD (mt1 s z q S))
  | 0, _, _, h, h1 => ⟨h, h1⟩
  | z + 1, q, S, h, h1 => by
    show NC (mt1 s z (q + 1) (if tw (dD S) s q = true then wr1 S (owW (if gB (dD S) s = (gB (dD S) q + 1) % 2 ^ 8 then q else s) 0) else S)) ∧ HB (dD (mt1 s z (q + 1) (if tw (dD S) s q = true then wr1 S (owW (if gB (dD S) s = (gB (dD S) q + 1) % 2 ^ 8 then q else s) 0) else S)))
    by_cases hc : tw (dD S) s q = true
    · rw [if_pos hc]
      exact mt1_ok z (q + 1) (NC_wr _ h).1 (by rw [(NC_wr _ h).2.1]; exact HB_ow h1)
    · rw [if_neg hc]
      exact mt1_ok z (q + 1) h h1
theorem mtA_ok : ∀ (z s : Nat) {S : DS}, NC S → HB (dD S) → NC (mtA z s S) ∧ HB (dD (mtA z s S))
  | 0, _, _, h, h1 => ⟨h, h1⟩
  | z + 1, s, S, h, h1 => mtA_ok z (s + 1) (mt1_ok s 0 h h1).1 (mt1_ok s 0 h h1).2
section S78
variable {n u : Nat} {I : Nat → Int32} {A : Nat → Nat → Int32} {J : Int64} {B : Nat → Int64} {mk sn L : Nat} {xs : Nat → Int32} {X : Nat → mC} {D : Nat → Nat} 
set_option maxRecDepth 100000 in
set_option maxHeartbeats 4000000 in
theorem l_155b_l  {l : Nat} (hl3 : l < 3) {x s cc : Nat} (hs : s < 16) (hW : WS D s cc) {Q : mO × mHp → Prop} : ∀ (z j : Nat) (w4 : Option Value) (a : Nat → KT) {I : Nat → Int32} {A : Nat → Nat → Int32}, (DK (A 50) D) → (j + z = cc) → (I 71 = nI (sb D s j)) → (KM l A a) → (∀ I' A' w', Fr [65, 66, 67, 71] I I' → Fr [52, 55] A A' → (∀ x, (x < 24 * l ∨ 24 * l + 24 ≤ x) → A' 55 x = A 55 x) → KM l A' (lnS D s z j a) → mq 155 129 [some (.ref 67), some (.int (nI l)), some (.int (nI x)), some (.int (nI s)), w'] [] (hS n u I' A' J B mk sn L xs X) Q) → mq 155 27 [some (.ref 67), some (.int (nI l)), some (.int (nI x)), some (.int (nI s)), w4] [] (hS n u I A J B mk sn L xs X) Q := by
  intro z
  induction z with
  | zero =>
    intro j w4 a I A h hz h71 hK kk
    have q1 := WS_128 hW
    have hj : j = cc := by omega
    have hjc : sb D s j = 128 * s + mB D s := by rw [hj]; exact WS_end hW
    refine x_al1 (pc := 27) rfl rfl ?_
    refine g_67_19 (pc := 28) (v := nI (sb D s j)) rfl rfl h71 ?_
    refine x_al1 (pc := 31) rfl rfl ?_
    refine x_il1 (pc := 32) rfl rfl ?_
    refine x_k (pc := 33) rfl rfl rfl ⟨Nat.le_of_ble_eq_true rfl, Nat.le_of_ble_eq_true rfl, Nat.le_of_ble_eq_true rfl⟩ rfl (k_122 (I := I) (A := A) h hs ?_)
    show mq 155 36 [some (.ref 67), some (.int (nI l)), some (.int (nI x)), some (.int (nI s)), w4] [.int (nI (128 * s + mB D s)), .int (nI (sb D s j))] (hS n u I A J B mk sn L xs X) _
    refine x_cmpN_ge (pc := 36) (t := 129) rfl rfl (by omega) (by omega) (fun c36 => ?_) (fun c36 => ?_)
    · exact kk I A w4 (Fr_refl _ _) (Fr_refl _ _) (fun _ _ => rfl) hK
    · omega
  | succ z ih =>
    intro j w4 a I A h hz h71 hK kk
    have q1 := WS_128 hW
    have hj : j < cc := by omega
    have q2 := WS_in hW hj
    have q4 := (WS_b hW hj).2.1
    refine x_al1 (pc := 27) rfl rfl ?_
    refine g_67_19 (pc := 28) (v := nI (sb D s j)) rfl rfl h71 ?_
    refine x_al1 (pc := 31) rfl rfl ?_
    refine x_il1 (pc := 32) rfl rfl ?_
    refine x_k (pc := 33) rfl rfl rfl ⟨Nat.le_of_ble_eq_true rfl, Nat.le_of_ble_eq_true rfl, Nat.le_of_ble_eq_true rfl⟩ rfl (k_122 (I := I) (A := A) h hs ?_)
    show mq 155 36 [some (.ref 67), some (.int (nI l)), some (.int (nI x)), some (.int (nI s)), w4] [.int (nI (128 * s + mB D s)), .int (nI (sb D s j))] (hS n u I A J B mk sn L xs X) _
    refine x_cmpN_ge (pc := 36) (t := 129) rfl rfl (by omega) (by omega) (fun c36 => ?_) (fun c36 => ?_)
    · omega
    · refine x_al1 (pc := 39) rfl rfl ?_
      refine x_il1 (pc := 40) rfl rfl ?_
      refine x_k (pc := 41) rfl rfl rfl ⟨Nat.le_of_ble_eq_true rfl, Nat.le_of_ble_eq_true rfl, Nat.le_of_ble_eq_true rfl⟩ rfl (k_124 (I := I) (A := A) (k := s) (q := sb D s j) h hs h71 (WS_b hW hj).2.1 (WS_b hW hj).2.2.1 (by rw [WS_rq hW hj]; omega) (fun I1 A1 f1 g1 e1 hg => ?_))
      show mq 155 44 [some (.ref 67), some (.int (nI l)), some (.int (nI x)), some (.int (nI s)), w4] [] (hS n u I1 A1 J B mk sn L xs X) _
      refine x_al1 (pc := 44) rfl rfl ?_
      refine g_67_10 (pc := 45) (v := nI (bP D (sb D s j))) rfl rfl hg.1 ?_
      refine x_const (pc := 48) (pc' := 50) (.int (nI 8)) rfl rfl rfl rfl ?_
      refine x_cmpN_ge (pc := 50) (t := 76) rfl rfl (by have := h.2.1 (bp3 D (sb D s j)); have e9 : bP D (sb D s j) = D (bp3 D (sb D s j)) := rfl; omega) (by decide) (fun c50 => ?_) (fun c50 => ?_)
      · refine x_const (pc := 76) (pc' := 77) (.int (nI 0)) rfl rfl rfl rfl ?_
        refine x_is2 (pc := 77) (ml' := [some (.ref 67), some (.int (nI l)), some (.int (nI x)), some (.int (nI s)), some (.int (nI 0))]) rfl rfl ?_
        have km : KM l A1 (ln1 D (bB D s) (sb D s j) a) := by
          rw [show ln1 D (bB D s) (sb D s j) a = a from funext (fun p => if_neg (fun w => by omega))]
          exact KM_eq hK (fun x _ _ => by rw [g1 55 (by decide)])
        have ko : ∀ x, (x < 24 * l ∨ 24 * l + 24 ≤ x) → A1 55 x = A 55 x := fun x hx => by rw [g1 55 (by decide)]
        refine x_il2 (pc := 79) rfl rfl ?_
        refine x_al1 (pc := 81) rfl rfl ?_
        refine g_67_9 (pc := 82) (v := nI (bN D (sb D s j))) rfl rfl hg.2.2.1 ?_
        refine x_cmpN_ge (pc := 85) (t := 126) rfl rfl (by omega) (by omega) (fun c85 => ?_) (fun c85 => ?_)
        · refine x_step (pc := 126) (pc' := 27) rfl rfl rfl rfl ?_
          exact ih (j + 1) _ _ (I := I1) (A := A1) (by rw [(show Fr [52, 55] A A1 from (Fr_cons (Fr_refl _ _) g1 (by decide))) 50 (by decide)]; exact h) (by omega) (e1.trans (congrArg nI (WS_rq hW hj))) km (fun I4 A4 w4 f4 g4 o4 k4 => kk I4 A4 w4 (Fr_cons (Fr_cons (Fr_refl _ _) f1 (by decide)) f4 (by decide)) (Fr_cons (Fr_cons (Fr_refl _ _) g1 (by decide)) g4 (by decide)) (fun x hx => (o4 x hx).trans (ko x hx)) k4)
        · refine x_il1 (pc := 88) rfl rfl ?_
          refine x_const (pc := 89) (pc' := 90) (.int (nI 3)) rfl rfl rfl rfl ?_
          refine x_cmpN_ne (pc := 90) (t := 126) rfl rfl (by omega) (by omega) (fun c90 => ?_) (fun c90 => ?_)
          · refine x_step (pc := 126) (pc' := 27) rfl rfl rfl rfl ?_
            exact ih (j + 1) _ _ (I := I1) (A := A1) (by rw [(show Fr [52, 55] A A1 from (Fr_cons (Fr_refl _ _) g1 (by decide))) 50 (by decide)]; exact h) (by omega) (e1.trans (congrArg nI (WS_rq hW hj))) km (fun I4 A4 w4 f4 g4 o4 k4 => kk I4 A4 w4 (Fr_cons (Fr_cons (Fr_refl _ _) f1 (by decide)) f4 (by decide)) (Fr_cons (Fr_cons (Fr_refl _ _) g1 (by decide)) g4 (by decide)) (fun x hx => (o4 x hx).trans (ko x hx)) k4)
          · omega
      · have c50 : bP D (sb D s j) < 8 := by omega
        refine x_al1 (pc := 53) rfl rfl ?_
        refine x_il1 (pc := 54) rfl rfl ?_
        refine x_al1 (pc := 55) rfl rfl ?_
        refine g_67_10 (pc := 56) (v := nI (bP D (sb D s j))) rfl rfl hg.1 ?_
        refine x_al1 (pc := 59) rfl rfl ?_
        refine g_67_11 (pc := 60) (v := bS D (sb D s j)) rfl rfl hg.2.1 ?_
        refine x_al1 (pc := 63) rfl rfl ?_
        refine g_67_9 (pc := 64) (v := nI (bN D (sb D s j))) rfl rfl hg.2.2.1 ?_
        refine x_al1 (pc := 67) rfl rfl ?_
        refine g_67_7 (pc := 68) rfl rfl ?_
        refine x_const (pc := 71) (pc' := 72) (.int (nI 0)) rfl rfl rfl rfl ?_
        refine al_70 (pc := 72) (q := 0) (v := oR D (bB D s) (sb D s j) 0) rfl rfl (by decide) ((hg.2.2.2 0 (by have := (WS_b hW hj).1; omega)).1) ?_
        refine x_k (pc := 73) rfl rfl rfl ⟨Nat.le_of_ble_eq_true rfl, Nat.le_of_ble_eq_true rfl, Nat.le_of_ble_eq_true rfl⟩ rfl (k_136 (I := I1) (A := A1) (l := l) (p := bP D (sb D s j)) (m := bN D (sb D s j)) (q := bS D (sb D s j)) (o := oR D (bB D s) (sb D s j) 0) (by omega) c50 (fun A2 g2 h2 => ?_))
        show mq 155 76 [some (.ref 67), some (.int (nI l)), some (.int (nI x)), some (.int (nI s)), w4] [] (hS n u I1 A2 J B mk sn L xs X) _
        refine x_const (pc := 76) (pc' := 77) (.int (nI 0)) rfl rfl rfl rfl ?_
        refine x_is2 (pc := 77) (ml' := [some (.ref 67), some (.int (nI l)), some (.int (nI x)), some (.int (nI s)), some (.int (nI 0))]) rfl rfl ?_
        have km : KM l A2 (ln1 D (bB D s) (sb D s j) a) := KM_s (KM_eq hK (fun x _ _ => by rw [g1 55 (by decide)])) c50 h2 (fun p => by unfold ln1; by_cases h9 : p = bP D (sb D s j); rw [if_pos ⟨c50, h9⟩, if_pos h9]; rw [if_neg (fun w => h9 w.2), if_neg h9])
        have ko : ∀ x, (x < 24 * l ∨ 24 * l + 24 ≤ x) → A2 55 x = A 55 x := fun x hx => by rw [h2, knw_out c50 hx, g1 55 (by decide)]
        refine x_il2 (pc := 79) rfl rfl ?_
        refine x_al1 (pc := 81) rfl rfl ?_
        refine g_67_9 (pc := 82) (v := nI (bN D (sb D s j))) rfl rfl hg.2.2.1 ?_
        refine x_cmpN_ge (pc := 85) (t := 126) rfl rfl (by omega) (by omega) (fun c85 => ?_) (fun c85 => ?_)
        · refine x_step (pc := 126) (pc' := 27) rfl rfl rfl rfl ?_
          exact ih (j + 1) _ _ (I := I1) (A := A2) (by rw [(show Fr [52, 55] A A2 from (Fr_cons (Fr_cons (Fr_refl _ _) g1 (by decide)) g2 (by decide))) 50 (by decide)]; exact h) (by omega) (e1.trans (congrArg nI (WS_rq hW hj))) km (fun I4 A4 w4 f4 g4 o4 k4 => kk I4 A4 w4 (Fr_cons (Fr_cons (Fr_refl _ _) f1 (by decide)) f4 (by decide)) (Fr_cons (Fr_cons (Fr_cons (Fr_refl _ _) g1 (by decide)) g2 (by decide)) g4 (by decide)) (fun x hx => (o4 x hx).trans (ko x hx)) k4)
        · refine x_il1 (pc := 88) rfl rfl ?_
          refine x_const (pc := 89) (pc' := 90) (.int (nI 3)) rfl rfl rfl rfl ?_
          refine x_cmpN_ne (pc := 90) (t := 126) rfl rfl (by omega) (by omega) (fun c90 => ?_) (fun c90 => ?_)
          · refine x_step (pc := 126) (pc' := 27) rfl rfl rfl rfl ?_
            exact ih (j + 1) _ _ (I := I1) (A := A2) (by rw [(show Fr [52, 55] A A2 from (Fr_cons (Fr_cons (Fr_refl _ _) g1 (by decide)) g2 (by decide))) 50 (by decide)]; exact h) (by omega) (e1.trans (congrArg nI (WS_rq hW hj))) km (fun I4 A4 w4 f4 g4 o4 k4 => kk I4 A4 w4 (Fr_cons (Fr_cons (Fr_refl _ _) f1 (by decide)) f4 (by decide)) (Fr_cons (Fr_cons (Fr_cons (Fr_refl _ _) g1 (by decide)) g2 (by decide)) g4 (by decide)) (fun x hx => (o4 x hx).trans (ko x hx)) k4)
          · omega
set_option maxRecDepth 100000 in
set_option maxHeartbeats 4000000 in
theorem l_155_l  {l : Nat} (hl3 : l < 3) {cn : Nat} {f bc : Nat → Nat} (hG : SG D l f cn) (hW : ∀ k, k < cn → WS D (f k) (bc (f k))) {Q : mO × mHp → Prop} : ∀ (z k : Nat) (w3 w4 : Option Value) (a : Nat → KT) {I : Nat → Int32} {A : Nat → Nat → Int32}, (DK (A 50) D) → (k + z = cn) → (I 61 = nI 0) → (KM l A a) → (∀ I' A', Fr [65, 66, 67, 71] I I' → Fr [52, 55] A A' → (∀ x, (x < 24 * l ∨ 24 * l + 24 ≤ x) → A' 55 x = A 55 x) → KM l A' (lnL D f bc z k a) → Q (.inl none, hS n u I' A' J B mk sn L xs X)) → mq 155 2 [some (.ref 67), some (.int (nI l)), some (.int (nI k)), w3, w4] [] (hS n u I A J B mk sn L xs X) Q := by
  intro z
  induction z with
  | zero =>
    intro k w3 w4 a I A h hz h61 hK kk
    have q16 := SG_le hG
    refine x_il1 (pc := 2) rfl rfl ?_
    refine x_al1 (pc := 3) rfl rfl ?_
    refine x_il1 (pc := 4) rfl rfl ?_
    refine x_k (pc := 5) rfl rfl rfl ⟨Nat.le_of_ble_eq_true rfl, Nat.le_of_ble_eq_true rfl, Nat.le_of_ble_eq_true rfl⟩ rfl (k_117 (I := I) (A := A) h (by omega) h61 ?_)
    show mq 155 8 [some (.ref 67), some (.int (nI l)), some (.int (nI k)), w3, w4] [.int (nI (cS (ow D l) 16)), .int (nI k)] (hS n u I A J B mk sn L xs X) _
    refine x_top (y := nI cn) (congrArg nI (SG_n hG)) ?_
    refine x_cmpN_ge (pc := 8) (t := 135) rfl rfl (by omega) (by omega) (fun c8 => ?_) (fun c8 => ?_)
    · refine x_ret (pc := 135) rfl rfl ?_
      exact kk I A (Fr_refl _ _) (Fr_refl _ _) (fun _ _ => rfl) hK
    · omega
  | succ z ih =>
    intro k w3 w4 a I A h hz h61 hK kk
    have q16 := SG_le hG
    refine x_il1 (pc := 2) rfl rfl ?_
    refine x_al1 (pc := 3) rfl rfl ?_
    refine x_il1 (pc := 4) rfl rfl ?_
    refine x_k (pc := 5) rfl rfl rfl ⟨Nat.le_of_ble_eq_true rfl, Nat.le_of_ble_eq_true rfl, Nat.le_of_ble_eq_true rfl⟩ rfl (k_117 (I := I) (A := A) h (by omega) h61 ?_)
    show mq 155 8 [some (.ref 67), some (.int (nI l)), some (.int (nI k)), w3, w4] [.int (nI (cS (ow D l) 16)), .int (nI k)] (hS n u I A J B mk sn L xs X) _
    refine x_top (y := nI cn) (congrArg nI (SG_n hG)) ?_
    refine x_cmpN_ge (pc := 8) (t := 135) rfl rfl (by omega) (by omega) (fun c8 => ?_) (fun c8 => ?_)
    · omega
    · refine x_al1 (pc := 11) rfl rfl ?_
      refine x_il1 (pc := 12) rfl rfl ?_
      refine x_il1 (pc := 13) rfl rfl ?_
      refine x_k (pc := 14) rfl rfl rfl ⟨Nat.le_of_ble_eq_true rfl, Nat.le_of_ble_eq_true rfl, Nat.le_of_ble_eq_true rfl⟩ rfl (k_119 (I := I) (A := A) (m := k) h hG (by omega) (by omega) h61 ?_)
      show mq 155 17 [some (.ref 67), some (.int (nI l)), some (.int (nI k)), w3, w4] [.int (nI (f k))] (hS n u I A J B mk sn L xs X) _
      refine x_is1 (pc := 17) (ml' := [some (.ref 67), some (.int (nI l)), some (.int (nI k)), some (.int (nI (f k))), w4]) rfl rfl ?_
      refine x_al1 (pc := 18) rfl rfl ?_
      refine x_al1 (pc := 19) rfl rfl ?_
      refine x_il1 (pc := 20) rfl rfl ?_
      refine x_k (pc := 21) rfl rfl rfl ⟨Nat.le_of_ble_eq_true rfl, Nat.le_of_ble_eq_true rfl, Nat.le_of_ble_eq_true rfl⟩ rfl (k_121 (I := I) (A := A) ?_)
      show mq 155 24 [some (.ref 67), some (.int (nI l)), some (.int (nI k)), some (.int (nI (f k))), w4] [.int (nI (128 * f k + 8)), .ref 67] (hS n u I A J B mk sn L xs X) _
      refine p_67_19 (pc := 24) rfl rfl ?_
      refine l_155b_l (I := va_up I 71 (nI (128 * f k + 8))) (A := A) (x := k) (s := f k) (cc := bc (f k)) hl3 (hG.1 k (by omega)).1 (hW k (by omega)) (bc (f k)) 0 w4 a h (Nat.zero_add _) rfl hK (fun I2 A2 w f2 g2 o2 k2 => ?_)
      refine x_iincN (pc := 129) (c := 1) (ml' := [some (.ref 67), some (.int (nI l)), some (.int (nI (k + 1))), some (.int (nI (f k))), w]) rfl rfl rfl rfl ?_
      refine x_step (pc := 132) (pc' := 2) rfl rfl rfl rfl ?_
      exact ih (k + 1) _ _ _ (I := I2) (A := A2) (by rw [g2 50 (by decide)]; exact h) (by omega) ((f2 61 (by decide)).trans h61) k2 (fun I3 A3 f3 g3 o3 k3 => kk I3 A3 (Fr_cons (Fr_cons (Fr_u (Fr_refl _ _) (by decide)) f2 (by decide)) f3 (by decide)) (Fr_cons (Fr_cons (Fr_refl _ _) g2 (by decide)) g3 (by decide)) (fun x hx => (o3 x hx).trans (o2 x hx)) k3)
set_option maxRecDepth 100000 in
set_option maxHeartbeats 4000000 in
theorem k_155_l (h : DK (A 50) D) {l : Nat} (hl3 : l < 3) {cn : Nat} {f bc : Nat → Nat} {a : Nat → KT} (hG : SG D l f cn) (hW : ∀ k, k < cn → WS D (f k) (bc (f k))) (h61 : I 61 = nI 0) (hK : KM l A a) {Q : mO × mHp → Prop} (kk : ∀ I' A', Fr [65, 66, 67, 71] I I' → Fr [52, 55] A A' → (∀ x, (x < 24 * l ∨ 24 * l + 24 ≤ x) → A' 55 x = A 55 x) → KM l A' (lnL D f bc cn 0 a) → Q (.inl none, hS n u I' A' J B mk sn L xs X)) : mq 155 0 [some (.ref 67), some (.int (nI l)), none, none, none] [] (hS n u I A J B mk sn L xs X) Q := by
  refine x_const (pc := 0) (pc' := 1) (.int (nI 0)) rfl rfl rfl rfl ?_
  refine x_is1 (pc := 1) (ml' := [some (.ref 67), some (.int (nI l)), some (.int (nI 0)), none, none]) rfl rfl ?_
  exact l_155_l hl3 hG hW cn 0 none none a h (Nat.zero_add _) h61 hK kk
set_option maxRecDepth 100000 in
set_option maxHeartbeats 4000000 in
theorem l_155r {x s b q : Nat} (hm : bN D q ≤ 4) (hky : ∀ k, k < bN D q → uN (kR D q k) < 32) {Q : mO × mHp → Prop} : ∀ (z k : Nat) (c : Nat → Int32) {A : Nat → Nat → Int32}, (k + z = bN D q) → (GB I A D b q) → (CMt A c) → (∀ A', Fr [56] A A' → CMt A' (cm1 D q z k c) → mq 155 126 [some (.ref 67), some (.int (nI 3)), some (.int (nI x)), some (.int (nI s)), some (.int (nI (bN D q)))] [] (hS n u I A' J B mk sn L xs X) Q) → mq 155 79 [some (.ref 67), some (.int (nI 3)), some (.int (nI x)), some (.int (nI s)), some (.int (nI k))] [] (hS n u I A J B mk sn L xs X) Q := by
  intro z
  induction z with
  | zero =>
    intro k c A hz hg hc kk
    refine x_il2 (pc := 79) rfl rfl ?_
    refine x_al1 (pc := 81) rfl rfl ?_
    refine g_67_9 (pc := 82) (v := nI (bN D q)) rfl rfl hg.2.2.1 ?_
    refine x_cmpN_ge (pc := 85) (t := 126) rfl rfl (by omega) (by omega) (fun c85 => ?_) (fun c85 => ?_)
    · rw [show k = bN D q by omega]
      exact kk A (Fr_refl _ _) hc
    · omega
  | succ z ih =>
    intro k c A hz hg hc kk
    refine x_il2 (pc := 79) rfl rfl ?_
    refine x_al1 (pc := 81) rfl rfl ?_
    refine g_67_9 (pc := 82) (v := nI (bN D q)) rfl rfl hg.2.2.1 ?_
    refine x_cmpN_ge (pc := 85) (t := 126) rfl rfl (by omega) (by omega) (fun c85 => ?_) (fun c85 => ?_)
    · omega
    · refine x_il1 (pc := 88) rfl rfl ?_
      refine x_const (pc := 89) (pc' := 90) (.int (nI 3)) rfl rfl rfl rfl ?_
      refine x_cmpN_ne (pc := 90) (t := 126) rfl rfl (by decide) (by decide) (fun c => absurd c (by decide)) (fun _ => ?_)
      refine x_al1 (pc := 93) rfl rfl ?_
      refine g_67_15 (pc := 94) rfl rfl ?_
      refine x_al1 (pc := 97) rfl rfl ?_
      refine g_67_7 (pc := 98) rfl rfl ?_
      refine x_const (pc := 101) (pc' := 103) (.int (nI 8)) rfl rfl rfl rfl ?_
      refine x_il2 (pc := 103) rfl rfl ?_
      refine x_iaddN (pc := 105) (c := 8 + k) rfl rfl ?_
      refine al_70 (pc := 106) (q := 8 + k) (v := nI (uN (kR D q k))) rfl rfl (by omega) (((hg.2.2.2 k (by omega)).2.2.1).trans (nI_uN _).symm) ?_
      refine x_al1 (pc := 107) rfl rfl ?_
      refine g_67_7 (pc := 108) rfl rfl ?_
      refine x_const (pc := 111) (pc' := 113) (.int (nI 12)) rfl rfl rfl rfl ?_
      refine x_il2 (pc := 113) rfl rfl ?_
      refine x_iaddN (pc := 115) (c := 12 + k) rfl rfl ?_
      refine al_70 (pc := 116) (q := 12 + k) (v := vR D q k) rfl rfl (by omega) ((hg.2.2.2 k (by omega)).2.2.2.1) ?_
      refine x_const (pc := 117) (pc' := 118) (.int (nI 1)) rfl rfl rfl rfl ?_
      refine x_iadd (pc := 118) rfl rfl ?_
      refine as_74 (pc := 119) (q := uN (kR D q k)) rfl rfl (by have := hky k (by omega); omega) ?_
      refine x_iincN (pc := 120) (c := 1) (ml' := [some (.ref 67), some (.int (nI 3)), some (.int (nI x)), some (.int (nI s)), some (.int (nI (k + 1)))]) rfl rfl rfl rfl ?_
      refine x_step (pc := 123) (pc' := 79) rfl rfl rfl rfl ?_
      refine ih (k + 1) _ (A := va_up A 56 (upd (A 56) (uN (kR D q k)) ((vR D q k) + (nI 1)))) (by omega) ⟨hg.1, hg.2.1, hg.2.2.1, hg.2.2.2⟩ (fun y hy => ?_) (fun A2 g2 h2 => kk A2 (Fr_cons (Fr_u (Fr_refl _ _) (by decide)) g2 (by decide)) h2)
      by_cases h5 : y = uN (kR D q k)
      · rw [h5, pk_us]
        exact pk_us
      · rw [pk_un h5]
        exact (pk_un h5).trans (hc y hy)
set_option maxRecDepth 100000 in
set_option maxHeartbeats 4000000 in
theorem l_155b_3  {x s cc : Nat} (hs : s < 16) (hW : WS D s cc) (hky : ∀ j, j < cc → ∀ k, k < bN D (sb D s j) → uN (kR D (sb D s j) k) < 32) {Q : mO × mHp → Prop} : ∀ (z j : Nat) (w4 : Option Value) (a : Nat → KT) {c : Nat → Int32} {I : Nat → Int32} {A : Nat → Nat → Int32}, (DK (A 50) D) → (j + z = cc) → (I 71 = nI (sb D s j)) → (KM 3 A a) → (CMt A c) → (∀ I' A' w', Fr [65, 66, 67, 71] I I' → Fr [52, 55, 56] A A' → CMt A' (cmS D s z j c) → (∀ x, (x < 24 * 3 ∨ 24 * 3 + 24 ≤ x) → A' 55 x = A 55 x) → KM 3 A' (lnS D s z j a) → mq 155 129 [some (.ref 67), some (.int (nI 3)), some (.int (nI x)), some (.int (nI s)), w'] [] (hS n u I' A' J B mk sn L xs X) Q) → mq 155 27 [some (.ref 67), some (.int (nI 3)), some (.int (nI x)), some (.int (nI s)), w4] [] (hS n u I A J B mk sn L xs X) Q := by
  intro z
  induction z with
  | zero =>
    intro j w4 a c I A h hz h71 hK hc kk
    have q1 := WS_128 hW
    have hj : j = cc := by omega
    have hjc : sb D s j = 128 * s + mB D s := by rw [hj]; exact WS_end hW
    refine x_al1 (pc := 27) rfl rfl ?_
    refine g_67_19 (pc := 28) (v := nI (sb D s j)) rfl rfl h71 ?_
    refine x_al1 (pc := 31) rfl rfl ?_
    refine x_il1 (pc := 32) rfl rfl ?_
    refine x_k (pc := 33) rfl rfl rfl ⟨Nat.le_of_ble_eq_true rfl, Nat.le_of_ble_eq_true rfl, Nat.le_of_ble_eq_true rfl⟩ rfl (k_122 (I := I) (A := A) h hs ?_)
    show mq 155 36 [some (.ref 67), some (.int (nI 3)), some (.int (nI x)), some (.int (nI s)), w4] [.int (nI (128 * s + mB D s)), .int (nI (sb D s j))] (hS n u I A J B mk sn L xs X) _
    refine x_cmpN_ge (pc := 36) (t := 129) rfl rfl (by omega) (by omega) (fun c36 => ?_) (fun c36 => ?_)
    · exact kk I A w4 (Fr_refl _ _) (Fr_refl _ _) hc (fun _ _ => rfl) hK
    · omega
  | succ z ih =>
    intro j w4 a c I A h hz h71 hK hc kk
    have q1 := WS_128 hW
    have hj : j < cc := by omega
    have q2 := WS_in hW hj
    have q4 := (WS_b hW hj).2.1
    refine x_al1 (pc := 27) rfl rfl ?_
    refine g_67_19 (pc := 28) (v := nI (sb D s j)) rfl rfl h71 ?_
    refine x_al1 (pc := 31) rfl rfl ?_
    refine x_il1 (pc := 32) rfl rfl ?_
    refine x_k (pc := 33) rfl rfl rfl ⟨Nat.le_of_ble_eq_true rfl, Nat.le_of_ble_eq_true rfl, Nat.le_of_ble_eq_true rfl⟩ rfl (k_122 (I := I) (A := A) h hs ?_)
    show mq 155 36 [some (.ref 67), some (.int (nI 3)), some (.int (nI x)), some (.int (nI s)), w4] [.int (nI (128 * s + mB D s)), .int (nI (sb D s j))] (hS n u I A J B mk sn L xs X) _
    refine x_cmpN_ge (pc := 36) (t := 129) rfl rfl (by omega) (by omega) (fun c36 => ?_) (fun c36 => ?_)
    · omega
    · refine x_al1 (pc := 39) rfl rfl ?_
      refine x_il1 (pc := 40) rfl rfl ?_
      refine x_k (pc := 41) rfl rfl rfl ⟨Nat.le_of_ble_eq_true rfl, Nat.le_of_ble_eq_true rfl, Nat.le_of_ble_eq_true rfl⟩ rfl (k_124 (I := I) (A := A) (k := s) (q := sb D s j) h hs h71 (WS_b hW hj).2.1 (WS_b hW hj).2.2.1 (by rw [WS_rq hW hj]; omega) (fun I1 A1 f1 g1 e1 hg => ?_))
      show mq 155 44 [some (.ref 67), some (.int (nI 3)), some (.int (nI x)), some (.int (nI s)), w4] [] (hS n u I1 A1 J B mk sn L xs X) _
      refine x_al1 (pc := 44) rfl rfl ?_
      refine g_67_10 (pc := 45) (v := nI (bP D (sb D s j))) rfl rfl hg.1 ?_
      refine x_const (pc := 48) (pc' := 50) (.int (nI 8)) rfl rfl rfl rfl ?_
      refine x_cmpN_ge (pc := 50) (t := 76) rfl rfl (by have := h.2.1 (bp3 D (sb D s j)); have e9 : bP D (sb D s j) = D (bp3 D (sb D s j)) := rfl; omega) (by decide) (fun c50 => ?_) (fun c50 => ?_)
      · refine x_const (pc := 76) (pc' := 77) (.int (nI 0)) rfl rfl rfl rfl ?_
        refine x_is2 (pc := 77) (ml' := [some (.ref 67), some (.int (nI 3)), some (.int (nI x)), some (.int (nI s)), some (.int (nI 0))]) rfl rfl ?_
        have km : KM 3 A1 (ln1 D (bB D s) (sb D s j) a) := by
          rw [show ln1 D (bB D s) (sb D s j) a = a from funext (fun p => if_neg (fun w => by omega))]
          exact KM_eq hK (fun x _ _ => by rw [g1 55 (by decide)])
        have ko : ∀ x, (x < 24 * 3 ∨ 24 * 3 + 24 ≤ x) → A1 55 x = A 55 x := fun x hx => by rw [g1 55 (by decide)]
        refine l_155r (I := I1) (A := A1) (x := x) (s := s) (b := bB D s) (q := (sb D s j)) (WS_b hW hj).2.1 (hky j hj) (bN D (sb D s j)) 0 c (Nat.zero_add _) hg (fun y hy => by rw [g1 56 (by decide)]; exact hc y hy) (fun A3 g3 h3 => ?_)
        refine x_step (pc := 126) (pc' := 27) rfl rfl rfl rfl ?_
        exact ih (j + 1) _ _ (c := cm1 D (sb D s j) (bN D (sb D s j)) 0 c) (I := I1) (A := A3) (by rw [(show Fr [52, 55, 56] A A3 from (Fr_cons (Fr_cons (Fr_refl _ _) g1 (by decide)) g3 (by decide))) 50 (by decide)]; exact h) (by omega) (e1.trans (congrArg nI (WS_rq hW hj))) (KM_eq km (fun x _ _ => by rw [g3 55 (by decide)])) h3 (fun I4 A4 w4 f4 g4 m4 o4 k4 => kk I4 A4 w4 (Fr_cons (Fr_cons (Fr_refl _ _) f1 (by decide)) f4 (by decide)) (Fr_cons (Fr_cons (Fr_cons (Fr_refl _ _) g1 (by decide)) g3 (by decide)) g4 (by decide)) m4 (fun x hx => (o4 x hx).trans ((by rw [g3 55 (by decide)] : A3 55 x = _).trans (ko x hx))) k4)
      · have c50 : bP D (sb D s j) < 8 := by omega
        refine x_al1 (pc := 53) rfl rfl ?_
        refine x_il1 (pc := 54) rfl rfl ?_
        refine x_al1 (pc := 55) rfl rfl ?_
        refine g_67_10 (pc := 56) (v := nI (bP D (sb D s j))) rfl rfl hg.1 ?_
        refine x_al1 (pc := 59) rfl rfl ?_
        refine g_67_11 (pc := 60) (v := bS D (sb D s j)) rfl rfl hg.2.1 ?_
        refine x_al1 (pc := 63) rfl rfl ?_
        refine g_67_9 (pc := 64) (v := nI (bN D (sb D s j))) rfl rfl hg.2.2.1 ?_
        refine x_al1 (pc := 67) rfl rfl ?_
        refine g_67_7 (pc := 68) rfl rfl ?_
        refine x_const (pc := 71) (pc' := 72) (.int (nI 0)) rfl rfl rfl rfl ?_
        refine al_70 (pc := 72) (q := 0) (v := oR D (bB D s) (sb D s j) 0) rfl rfl (by decide) ((hg.2.2.2 0 (by have := (WS_b hW hj).1; omega)).1) ?_
        refine x_k (pc := 73) rfl rfl rfl ⟨Nat.le_of_ble_eq_true rfl, Nat.le_of_ble_eq_true rfl, Nat.le_of_ble_eq_true rfl⟩ rfl (k_136 (I := I1) (A := A1) (l := 3) (p := bP D (sb D s j)) (m := bN D (sb D s j)) (q := bS D (sb D s j)) (o := oR D (bB D s) (sb D s j) 0) (by decide) c50 (fun A2 g2 h2 => ?_))
        show mq 155 76 [some (.ref 67), some (.int (nI 3)), some (.int (nI x)), some (.int (nI s)), w4] [] (hS n u I1 A2 J B mk sn L xs X) _
        refine x_const (pc := 76) (pc' := 77) (.int (nI 0)) rfl rfl rfl rfl ?_
        refine x_is2 (pc := 77) (ml' := [some (.ref 67), some (.int (nI 3)), some (.int (nI x)), some (.int (nI s)), some (.int (nI 0))]) rfl rfl ?_
        have km : KM 3 A2 (ln1 D (bB D s) (sb D s j) a) := KM_s (KM_eq hK (fun x _ _ => by rw [g1 55 (by decide)])) c50 h2 (fun p => by unfold ln1; by_cases h9 : p = bP D (sb D s j); rw [if_pos ⟨c50, h9⟩, if_pos h9]; rw [if_neg (fun w => h9 w.2), if_neg h9])
        have ko : ∀ x, (x < 24 * 3 ∨ 24 * 3 + 24 ≤ x) → A2 55 x = A 55 x := fun x hx => by rw [h2, knw_out c50 hx, g1 55 (by decide)]
        refine l_155r (I := I1) (A := A2) (x := x) (s := s) (b := bB D s) (q := (sb D s j)) (WS_b hW hj).2.1 (hky j hj) (bN D (sb D s j)) 0 c (Nat.zero_add _) ⟨hg.1, hg.2.1, hg.2.2.1, fun k hk => by rw [g2 52 (by decide)]; exact hg.2.2.2 k hk⟩ (fun y hy => by rw [g2 56 (by decide), g1 56 (by decide)]; exact hc y hy) (fun A3 g3 h3 => ?_)
        refine x_step (pc := 126) (pc' := 27) rfl rfl rfl rfl ?_
        exact ih (j + 1) _ _ (c := cm1 D (sb D s j) (bN D (sb D s j)) 0 c) (I := I1) (A := A3) (by rw [(show Fr [52, 55, 56] A A3 from (Fr_cons (Fr_cons (Fr_cons (Fr_refl _ _) g1 (by decide)) g2 (by decide)) g3 (by decide))) 50 (by decide)]; exact h) (by omega) (e1.trans (congrArg nI (WS_rq hW hj))) (KM_eq km (fun x _ _ => by rw [g3 55 (by decide)])) h3 (fun I4 A4 w4 f4 g4 m4 o4 k4 => kk I4 A4 w4 (Fr_cons (Fr_cons (Fr_refl _ _) f1 (by decide)) f4 (by decide)) (Fr_cons (Fr_cons (Fr_cons (Fr_cons (Fr_refl _ _) g1 (by decide)) g2 (by decide)) g3 (by decide)) g4 (by decide)) m4 (fun x hx => (o4 x hx).trans ((by rw [g3 55 (by decide)] : A3 55 x = _).trans (ko x hx))) k4)
set_option maxRecDepth 100000 in
set_option maxHeartbeats 4000000 in
theorem l_155_3  {cn : Nat} {f bc : Nat → Nat} (hG : SG D 3 f cn) (hW : ∀ k, k < cn → WS D (f k) (bc (f k))) (hky : ∀ k, k < cn → ∀ j, j < bc (f k) → ∀ r, r < bN D (sb D (f k) j) → uN (kR D (sb D (f k) j) r) < 32) {Q : mO × mHp → Prop} : ∀ (z k : Nat) (w3 w4 : Option Value) (a : Nat → KT) {c : Nat → Int32} {I : Nat → Int32} {A : Nat → Nat → Int32}, (DK (A 50) D) → (k + z = cn) → (I 61 = nI 0) → (KM 3 A a) → (CMt A c) → (∀ I' A', Fr [65, 66, 67, 71] I I' → Fr [52, 55, 56] A A' → CMt A' (cmL D f bc z k c) → (∀ x, (x < 24 * 3 ∨ 24 * 3 + 24 ≤ x) → A' 55 x = A 55 x) → KM 3 A' (lnL D f bc z k a) → Q (.inl none, hS n u I' A' J B mk sn L xs X)) → mq 155 2 [some (.ref 67), some (.int (nI 3)), some (.int (nI k)), w3, w4] [] (hS n u I A J B mk sn L xs X) Q := by
  intro z
  induction z with
  | zero =>
    intro k w3 w4 a c I A h hz h61 hK hc kk
    have q16 := SG_le hG
    refine x_il1 (pc := 2) rfl rfl ?_
    refine x_al1 (pc := 3) rfl rfl ?_
    refine x_il1 (pc := 4) rfl rfl ?_
    refine x_k (pc := 5) rfl rfl rfl ⟨Nat.le_of_ble_eq_true rfl, Nat.le_of_ble_eq_true rfl, Nat.le_of_ble_eq_true rfl⟩ rfl (k_117 (I := I) (A := A) h (by decide) h61 ?_)
    show mq 155 8 [some (.ref 67), some (.int (nI 3)), some (.int (nI k)), w3, w4] [.int (nI (cS (ow D 3) 16)), .int (nI k)] (hS n u I A J B mk sn L xs X) _
    refine x_top (y := nI cn) (congrArg nI (SG_n hG)) ?_
    refine x_cmpN_ge (pc := 8) (t := 135) rfl rfl (by omega) (by omega) (fun c8 => ?_) (fun c8 => ?_)
    · refine x_ret (pc := 135) rfl rfl ?_
      exact kk I A (Fr_refl _ _) (Fr_refl _ _) hc (fun _ _ => rfl) hK
    · omega
  | succ z ih =>
    intro k w3 w4 a c I A h hz h61 hK hc kk
    have q16 := SG_le hG
    refine x_il1 (pc := 2) rfl rfl ?_
    refine x_al1 (pc := 3) rfl rfl ?_
    refine x_il1 (pc := 4) rfl rfl ?_
    refine x_k (pc := 5) rfl rfl rfl ⟨Nat.le_of_ble_eq_true rfl, Nat.le_of_ble_eq_true rfl, Nat.le_of_ble_eq_true rfl⟩ rfl (k_117 (I := I) (A := A) h (by decide) h61 ?_)
    show mq 155 8 [some (.ref 67), some (.int (nI 3)), some (.int (nI k)), w3, w4] [.int (nI (cS (ow D 3) 16)), .int (nI k)] (hS n u I A J B mk sn L xs X) _
    refine x_top (y := nI cn) (congrArg nI (SG_n hG)) ?_
    refine x_cmpN_ge (pc := 8) (t := 135) rfl rfl (by omega) (by omega) (fun c8 => ?_) (fun c8 => ?_)
    · omega
    · refine x_al1 (pc := 11) rfl rfl ?_
      refine x_il1 (pc := 12) rfl rfl ?_
      refine x_il1 (pc := 13) rfl rfl ?_
      refine x_k (pc := 14) rfl rfl rfl ⟨Nat.le_of_ble_eq_true rfl, Nat.le_of_ble_eq_true rfl, Nat.le_of_ble_eq_true rfl⟩ rfl (k_119 (I := I) (A := A) (m := k) h hG (by omega) (by decide) h61 ?_)
      show mq 155 17 [some (.ref 67), some (.int (nI 3)), some (.int (nI k)), w3, w4] [.int (nI (f k))] (hS n u I A J B mk sn L xs X) _
      refine x_is1 (pc := 17) (ml' := [some (.ref 67), some (.int (nI 3)), some (.int (nI k)), some (.int (nI (f k))), w4]) rfl rfl ?_
      refine x_al1 (pc := 18) rfl rfl ?_
      refine x_al1 (pc := 19) rfl rfl ?_
      refine x_il1 (pc := 20) rfl rfl ?_
      refine x_k (pc := 21) rfl rfl rfl ⟨Nat.le_of_ble_eq_true rfl, Nat.le_of_ble_eq_true rfl, Nat.le_of_ble_eq_true rfl⟩ rfl (k_121 (I := I) (A := A) ?_)
      show mq 155 24 [some (.ref 67), some (.int (nI 3)), some (.int (nI k)), some (.int (nI (f k))), w4] [.int (nI (128 * f k + 8)), .ref 67] (hS n u I A J B mk sn L xs X) _
      refine p_67_19 (pc := 24) rfl rfl ?_
      refine l_155b_3 (I := va_up I 71 (nI (128 * f k + 8))) (A := A) (x := k) (s := f k) (cc := bc (f k)) (hG.1 k (by omega)).1 (hW k (by omega)) (hky k (by omega)) (bc (f k)) 0 w4 a h (Nat.zero_add _) rfl hK hc (fun I2 A2 w f2 g2 m2 o2 k2 => ?_)
      refine x_iincN (pc := 129) (c := 1) (ml' := [some (.ref 67), some (.int (nI 3)), some (.int (nI (k + 1))), some (.int (nI (f k))), w]) rfl rfl rfl rfl ?_
      refine x_step (pc := 132) (pc' := 2) rfl rfl rfl rfl ?_
      exact ih (k + 1) _ _ _ (I := I2) (A := A2) (by rw [g2 50 (by decide)]; exact h) (by omega) ((f2 61 (by decide)).trans h61) k2 m2 (fun I3 A3 f3 g3 m3 o3 k3 => kk I3 A3 (Fr_cons (Fr_cons (Fr_u (Fr_refl _ _) (by decide)) f2 (by decide)) f3 (by decide)) (Fr_cons (Fr_cons (Fr_refl _ _) g2 (by decide)) g3 (by decide)) m3 (fun x hx => (o3 x hx).trans (o2 x hx)) k3)
set_option maxRecDepth 100000 in
set_option maxHeartbeats 4000000 in
theorem k_155_3 (h : DK (A 50) D) {cn : Nat} {f bc : Nat → Nat} {a : Nat → KT} {c : Nat → Int32} (hG : SG D 3 f cn) (hW : ∀ k, k < cn → WS D (f k) (bc (f k))) (hky : ∀ k, k < cn → ∀ j, j < bc (f k) → ∀ r, r < bN D (sb D (f k) j) → uN (kR D (sb D (f k) j) r) < 32) (h61 : I 61 = nI 0) (hK : KM 3 A a) (hc : CMt A c) {Q : mO × mHp → Prop} (kk : ∀ I' A', Fr [65, 66, 67, 71] I I' → Fr [52, 55, 56] A A' → CMt A' (cmL D f bc cn 0 c) → (∀ x, (x < 24 * 3 ∨ 24 * 3 + 24 ≤ x) → A' 55 x = A 55 x) → KM 3 A' (lnL D f bc cn 0 a) → Q (.inl none, hS n u I' A' J B mk sn L xs X)) : mq 155 0 [some (.ref 67), some (.int (nI 3)), none, none, none] [] (hS n u I A J B mk sn L xs X) Q := by
  refine x_const (pc := 0) (pc' := 1) (.int (nI 0)) rfl rfl rfl rfl ?_
  refine x_is1 (pc := 1) (ml' := [some (.ref 67), some (.int (nI 3)), some (.int (nI 0)), none, none]) rfl rfl ?_
  exact l_155_3 hG hW hky cn 0 none none a h (Nat.zero_add _) h61 hK hc kk
end S78
