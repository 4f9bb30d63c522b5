/-! Keys are gathered; a slot is sifted: the class. -/
theorem lV_1 (D : Nat → Nat) (q : Nat) : 1 ≤ lV D q := vL_pos D 4 q
theorem rl_4 (D : Nat → Nat) (q : Nat) : 4 ≤ rl D q := by
  have h1 := lV_1 D q
  have h2 := lV_1 D (q + rl1 D q)
  have h3 := lV_1 D (q + rl2 D q)
  have e1 : rl1 D q = lV D q := rfl
  have e2 : rl2 D q = rl1 D q + lV D (q + rl1 D q) := rfl
  have e3 : rl3 D q = rl2 D q + lV D (q + rl2 D q) := rfl
  unfold rl
  split <;> omega
theorem rq_4 (D : Nat → Nat) (q : Nat) : ∀ k, q + 6 + 4 * k ≤ rq D q k
  | 0 => by
    have h1 := lV_1 D (q + 1)
    have h2 := lV_1 D (bp2 D q)
    have h3 := lV_1 D (bp3 D q + 1)
    have e1 : bp2 D q = q + 1 + lV D (q + 1) := rfl
    have e2 : bp3 D q = bp2 D q + lV D (bp2 D q) := rfl
    have e3 : bp5 D q = bp3 D q + 1 + lV D (bp3 D q + 1) := rfl
    show q + 6 + 4 * 0 ≤ bp5 D q + 1
    omega
  | k + 1 => by
    have h := rq_4 D q k
    have h1 := rl_4 D (rq D q k)
    show q + 6 + 4 * (k + 1) ≤ rq D q k + rl D (rq D q k)
    omega
theorem WB_low {D : Nat → Nat} {q : Nat} (h : WB D q) : q + 6 + 4 * bN D q ≤ nb D q := by
  rw [← h.2.2.2]
  exact rq_4 D q _
theorem bRs_len (D : Nat → Nat) (b q : Nat) : (bRs D b q).length = bN D q := mp_len _ _
theorem sRs_len {D : Nat → Nat} {s c : Nat} (h : WS D s c) : ∀ j, j ≤ c → 4 * (sRs D s j).length + (128 * s + 8) ≤ sb D s j
  | 0, _ => Nat.le_of_eq (by show 4 * 0 + (128 * s + 8) = 128 * s + 8; omega)
  | j + 1, hj => by
    have h1 := sRs_len h j (by omega)
    have h2 := WB_low (WS_b h (show j < c by omega))
    have e : sb D s (j + 1) = nb D (sb D s j) := rfl
    rw [sRs_succ, List.length_append, bRs_len, e]
    omega
theorem fl_mono (g : Nat → List R5) {i j : Nat} (h : i ≤ j) : (fl g i).length ≤ (fl g j).length := by
  induction h with
  | refl => exact Nat.le_refl _
  | step h ih =>
    refine Nat.le_trans ih ?_
    show _ ≤ (fl g _ ++ g _).length
    rw [List.length_append]
    omega
theorem sRs_30 {D : Nat → Nat} {s c : Nat} (h : WS D s c) : (sRs D s c).length ≤ 30 := by
  have h1 := sRs_len h c (Nat.le_refl _)
  have h2 := WS_end h
  have h3 := WS_128 h
  omega
/-- what stays of the j-th batch; the cleaned slot's bytes; how many records are left out -/
def kB (D : Nat → Nat) (s : Nat) (p : Nat → Bool) (j : Nat) : List R5 := kc (r5 D (bB D s) (sb D s j)) p (bN D (sb D s j))
def cT (D : Nat → Nat) (s : Nat) (P : Nat → Nat → Bool) : Nat → List Nat
  | 0 => hdr 0 0 (gB D s + 1) (bB D s)
  | j + 1 => if (kB D s (P j) j).length = 0 then cT D s P j else cT D s P j ++ eBt (nI (bB D s)) (nI (bP D (sb D s j))) (bS D (sb D s j)) (kB D s (P j) j)
def cO (D : Nat → Nat) (s : Nat) (P : Nat → Nat → Bool) : Nat → Nat
  | 0 => 0
  | j + 1 => cO D s P j + (bN D (sb D s j) - (kB D s (P j) j).length)
def cF (D : Nat → Nat) (s : Nat) (P : Nat → Nat → Bool) (c : Nat) : List Nat := ((cT D s P c).set 0 ((cT D s P c).length / 2 ^ 8 % 256)).set 1 ((cT D s P c).length % 256)
theorem kB_le (D : Nat → Nat) (s : Nat) (p : Nat → Bool) (j : Nat) : (kB D s p j).length ≤ bN D (sb D s j) := kc_le _ _ _
theorem cT_8 (D : Nat → Nat) (s : Nat) (P : Nat → Nat → Bool) : ∀ j, 8 ≤ (cT D s P j).length
  | 0 => Nat.le_refl 8
  | j + 1 => by
    have h := cT_8 D s P j
    show 8 ≤ (if (kB D s (P j) j).length = 0 then cT D s P j else cT D s P j ++ eBt (nI (bB D s)) (nI (bP D (sb D s j))) (bS D (sb D s j)) (kB D s (P j) j)).length
    split
    · exact h
    · rw [List.length_append]
      omega
set_option maxRecDepth 100000 in
theorem cT_len {D : Nat → Nat} {s c : Nat} (h : WS D s c) (P : Nat → Nat → Bool) : ∀ j, j ≤ c → 22 * (cT D s P j).length + 102 * (128 * s + 8) ≤ 176 + 102 * sb D s j
  | 0, _ => by
    show 22 * 8 + 102 * (128 * s + 8) ≤ 176 + 102 * (128 * s + 8)
    omega
  | j + 1, hj => by
    have h1 := cT_len h P j (by omega)
    have hW := WS_b h (show j < c by omega)
    have h2 := WB_low hW
    have h3 := kB_le D s (P j) j
    have h4 := hW.2.1
    have e : sb D s (j + 1) = nb D (sb D s j) := rfl
    have h5 := eBt_len (nI (bB D s)) (nI (bP D (sb D s j))) (bS D (sb D s j)) (kB D s (P j) j)
    show 22 * (if (kB D s (P j) j).length = 0 then cT D s P j else cT D s P j ++ eBt (nI (bB D s)) (nI (bP D (sb D s j))) (bS D (sb D s j)) (kB D s (P j) j)).length + _ ≤ _
    rw [e]
    split
    · omega
    · rw [List.length_append]
      omega
theorem cT_600 {D : Nat → Nat} {s c : Nat} (h : WS D s c) (P : Nat → Nat → Bool) {j : Nat} (hj : j ≤ c) : (cT D s P j).length ≤ 564 := by
  have h1 := cT_len h P j hj
  have h2 := WS_end h
  have h3 := WS_128 h
  have h4 := bt_le D (128 * s + 8) hj
  have h5 : sb D s j ≤ sb D s c := Nat.le_trans (Nat.le_add_right _ _) h4
  omega
theorem cT_nn {D : Nat → Nat} {s c : Nat} (h : WS D s c) (P : Nat → Nat → Bool) {j : Nat} (hj : j < c) : (cT D s P j).length + 21 * bN D (sb D s j) < 554 := by
  have h1 := cT_len h P j (by omega)
  have h2 := WS_end h
  have h3 := WS_128 h
  have hW := WS_b h hj
  have h6 := WB_low hW
  have h7 := hW.1
  have h8 := hW.2.1
  have e : sb D s (j + 1) = nb D (sb D s j) := rfl
  have h9 := (WS_in h hj).2.2
  omega
theorem hdr_mod (m o g b : Nat) : hdr m o (g % 2 ^ 8) b = hdr m o g b := by
  unfold hdr
  rw [show g % 2 ^ 8 % 256 = g % 256 from Nat.mod_mod g 256]
theorem cF_len (D : Nat → Nat) (s : Nat) (P : Nat → Nat → Bool) (c : Nat) : (cF D s P c).length = (cT D s P c).length := by
  unfold cF
  rw [List.length_set, List.length_set]
section S65
variable {n u : Nat} {I : Nat → Int32} {A : Nat → Nat → Int32} {J : Int64} {B : Nat → Int64} {mk sn L : Nat} {xs : Nat → Int32} {X : Nat → mC} {D : Nat → Nat} 
set_option maxRecDepth 100000 in
set_option maxHeartbeats 4000000 in
theorem l_94r_2 {s j b q m : Nat} {l0 lim : Int64} {Z : List R5} (hm : m ≤ 4) (hj : j < 200) (hZ : Z.length + m ≤ 512) {Q : mO × mHp → Prop} : ∀ (z k : Nat) {I : Nat → Int32} {A : Nat → Nat → Int32}, (k + z = m) → (I 22 = nI m) → (RBn A D b q m) → (SV I A (Z ++ mp (r5 D b q) k)) → (∀ I' A', Fr [12] I I' → Fr [2] A A' → SV I' A' (Z ++ mp (r5 D b q) m) → mq 94 103 [some (.ref 1), some (.ref 23), some (.long l0), none, some (.ref 6), some (.int (nI s)), some (.int (nI j)), some (.int (nI m))] [] (hS n u I' A' lim B mk sn L xs X) Q) → mq 94 72 [some (.ref 1), some (.ref 23), some (.long l0), none, some (.ref 6), some (.int (nI s)), some (.int (nI j)), some (.int (nI k))] [] (hS n u I A lim B mk sn L xs X) Q := by
  intro z
  induction z with
  | zero =>
    intro k I A hz h22 hr hS0 kk
    refine x_il2 (pc := 72) rfl rfl ?_
    refine x_al2 (pc := 74) rfl rfl ?_
    refine g_6_5 (pc := 76) (v := nI m) rfl rfl h22 ?_
    refine x_cmpN_ge (pc := 79) (t := 103) rfl rfl (by omega) (by omega) (fun c79 => ?_) (fun c79 => ?_)
    · rw [show k = m by omega]
      rw [show k = m by omega] at hS0
      exact kk I A (Fr_refl _ _) (Fr_refl _ _) hS0
    · omega
  | succ z ih =>
    intro k I A hz h22 hr hS0 kk
    refine x_il2 (pc := 72) rfl rfl ?_
    refine x_al2 (pc := 74) rfl rfl ?_
    refine g_6_5 (pc := 76) (v := nI m) rfl rfl h22 ?_
    refine x_cmpN_ge (pc := 79) (t := 103) rfl rfl (by omega) (by omega) (fun c79 => ?_) (fun c79 => ?_)
    · omega
    · refine x_al1 (pc := 82) rfl rfl ?_
      refine g_1_5 (pc := 83) rfl rfl ?_
      refine x_al2 (pc := 86) rfl rfl ?_
      refine g_6_2 (pc := 88) rfl rfl ?_
      refine x_il2 (pc := 91) rfl rfl ?_
      refine al_9 (pc := 93) (q := k) (v := (r5 D b q k).2.2.1) rfl rfl (by omega) ((hr k (by omega)).2.2.1) ?_
      refine x_k (pc := 94) rfl rfl rfl ⟨Nat.le_of_ble_eq_true rfl, Nat.le_of_ble_eq_true rfl, Nat.le_of_ble_eq_true rfl⟩ rfl (k_96 (I := I) (A := A) (Z := Z ++ mp (r5 D b q) k) (r := r5 D b q k) hS0 (by rw [List.length_append, mp_len]; omega) (fun I1 A1 f1 g1 h1 => ?_))
      show mq 94 97 [some (.ref 1), some (.ref 23), some (.long l0), none, some (.ref 6), some (.int (nI s)), some (.int (nI j)), some (.int (nI k))] [] (hS n u I1 A1 lim B mk sn L xs X) _
      refine x_iincN (pc := 97) (c := 1) (ml' := [some (.ref 1), some (.ref 23), some (.long l0), none, some (.ref 6), some (.int (nI s)), some (.int (nI j)), some (.int (nI (k + 1)))]) rfl rfl rfl rfl ?_
      refine x_step (pc := 100) (pc' := 72) rfl rfl rfl rfl ?_
      exact ih (k + 1) (I := I1) (A := A1) (by omega) ((f1 22 (by decide)).trans h22) (fun x hx => by rw [g1 10 (by decide), g1 11 (by decide), g1 12 (by decide), g1 13 (by decide), g1 14 (by decide)]; exact hr x hx) (by rw [List.append_assoc] at h1; exact h1) (fun I2 A2 f2 g2 h2 => kk I2 A2 (Fr_cons f1 f2 (by decide)) (Fr_cons g1 g2 (by decide)) h2)
set_option maxRecDepth 100000 in
set_option maxHeartbeats 4000000 in
theorem l_94b_2 {x s c : Nat} {l0 lim : Int64} {Z : List R5} (hs : s < 16) (hW : WS D s c) (hZ : Z.length + 30 ≤ 512) {Q : mO × mHp → Prop} : ∀ (z j e : Nat) (w7 : Option Value) {I : Nat → Int32} {A : Nat → Nat → Int32}, (DK (A 0) D) → (j + z = c) → (RS I D s j e) → (e < 1000) → (SV I A (Z ++ sRs D s j)) → (∀ I' A' j' w', Fr [7, 8, 9, 10, 12, 20, 21, 22] I I' → Fr [2, 10, 11, 12, 13, 14] A A' → SV I' A' (Z ++ sRs D s c) → mq 94 109 [some (.ref 1), some (.ref 23), some (.long l0), none, some (.ref 6), some (.int (nI x)), some (.int (nI j')), w'] [] (hS n u I' A' lim B mk sn L xs X) Q) → mq 94 51 [some (.ref 1), some (.ref 23), some (.long l0), none, some (.ref 6), some (.int (nI x)), some (.int (nI j)), w7] [] (hS n u I A lim B mk sn L xs X) Q := by
  intro z
  induction z with
  | zero =>
    intro j e w7 I A h hz hR he hS0 kk
    have q8 := WS_8 hW
    have q9 := WS_128 hW
    refine x_il2 (pc := 51) rfl rfl ?_
    refine x_const (pc := 53) (pc' := 56) (.int (nI 128)) rfl rfl rfl rfl ?_
    refine x_cmpN_ge (pc := 56) (t := 109) rfl rfl (by omega) (by omega) (fun c56 => ?_) (fun c56 => ?_)
    · omega
    · refine x_al1 (pc := 59) rfl rfl ?_
      refine g_1_1 (pc := 60) rfl rfl ?_
      refine x_k (pc := 63) rfl rfl rfl ⟨Nat.le_of_ble_eq_true rfl, Nat.le_of_ble_eq_true rfl, Nat.le_of_ble_eq_true rfl⟩ rfl (rs_end (I := I) (A := A) hW (by omega) hR ?_)
      show mq 94 66 [some (.ref 1), some (.ref 23), some (.long l0), none, some (.ref 6), some (.int (nI x)), some (.int (nI j)), w7] [.int (nI 0)] (hS n u I A lim B mk sn L xs X) _
      refine x_ifN_eq (pc := 66) (t := 109) rfl rfl (by decide) (fun _ => ?_) (fun c => absurd c (by decide))
      rw [show j = c by omega] at hS0
      exact kk I A j w7 (Fr_refl _ _) (Fr_refl _ _) hS0
  | succ z ih =>
    intro j e w7 I A h hz hR he hS0 kk
    have hj : j < c := by omega
    have q8 := WS_8 hW
    have q9 := WS_128 hW
    have q30 := sRs_30 hW
    have qm : (sRs D s (j + 1)).length ≤ (sRs D s c).length := fl_mono _ (by omega)
    rw [sRs_succ, List.length_append, bRs_len] at qm
    refine x_il2 (pc := 51) rfl rfl ?_
    refine x_const (pc := 53) (pc' := 56) (.int (nI 128)) rfl rfl rfl rfl ?_
    refine x_cmpN_ge (pc := 56) (t := 109) rfl rfl (by omega) (by omega) (fun c56 => ?_) (fun c56 => ?_)
    · omega
    · refine x_al1 (pc := 59) rfl rfl ?_
      refine g_1_1 (pc := 60) rfl rfl ?_
      refine x_k (pc := 63) rfl rfl rfl ⟨Nat.le_of_ble_eq_true rfl, Nat.le_of_ble_eq_true rfl, Nat.le_of_ble_eq_true rfl⟩ rfl (rs_step (I := I) (A := A) h hs hW hj hR he (fun I1 A1 f1 g1 hR1 e7 e10 hb => ?_))
      show mq 94 66 [some (.ref 1), some (.ref 23), some (.long l0), none, some (.ref 6), some (.int (nI x)), some (.int (nI j)), w7] [.int (nI 1)] (hS n u I1 A1 lim B mk sn L xs X) _
      refine x_ifN_eq (pc := 66) (t := 109) rfl rfl (by decide) (fun c => absurd c (by decide)) (fun _ => ?_)
      refine x_const (pc := 69) (pc' := 70) (.int (nI 0)) rfl rfl rfl rfl ?_
      refine x_is2 (pc := 70) (ml' := [some (.ref 1), some (.ref 23), some (.long l0), none, some (.ref 6), some (.int (nI x)), some (.int (nI j)), some (.int (nI 0))]) rfl rfl ?_
      refine l_94r_2 (I := I1) (A := A1) (s := x) (j := j) (b := bB D s) (q := sb D s j) (m := bN D (sb D s j)) (Z := Z ++ sRs D s j) (WS_b hW hj).2.1 (by omega) (by rw [List.length_append]; omega) (bN D (sb D s j)) 0 (Nat.zero_add _) hb.2.2.1 hb.2.2.2 (by rw [show mp (r5 D (bB D s) (sb D s j)) 0 = [] from rfl, List.append_nil]; exact SV_fr hS0 f1 g1 (by decide) (by decide)) (fun I2 A2 f2 g2 h2 => ?_)
      refine x_iincN (pc := 103) (c := 1) (ml' := [some (.ref 1), some (.ref 23), some (.long l0), none, some (.ref 6), some (.int (nI x)), some (.int (nI (j + 1))), some (.int (nI (bN D (sb D s j))))]) rfl rfl rfl rfl ?_
      refine x_step (pc := 106) (pc' := 51) rfl rfl rfl rfl ?_
      exact ih (j + 1) (eN e (pb D s j)) _ (I := I2) (A := A2) (by rw [g2 0 (by decide), g1 0 (by decide)]; exact h) (by omega) (RS_fr hR1 f2 (by decide) (by decide) (by decide) (by decide) (by decide)) (eN_lt he (pb_le hW (by omega))) (by rw [List.append_assoc] at h2; exact h2) (fun I3 A3 y w f3 g3 h3 => kk I3 A3 y w (Fr_cons (Fr_cons (Fr_cons (Fr_refl _ _) f1 (by decide)) f2 (by decide)) f3 (by decide)) (Fr_cons (Fr_cons (Fr_cons (Fr_refl _ _) g1 (by decide)) g2 (by decide)) g3 (by decide)) h3)
theorem fl_30 {D : Nat → Nat} {f bc : Nat → Nat} {cn : Nat} (hf : ∀ k, k < cn → f k < 16 ∧ WS D (f k) (bc (f k))) : ∀ k, k ≤ cn → (fl (fun k => sRs D (f k) (bc (f k))) k).length ≤ 30 * k
  | 0, _ => Nat.le_refl 0
  | k + 1, hk => by
    have h := fl_30 hf k (by omega)
    have h1 := sRs_30 (hf k (by omega)).2
    show (fl _ k ++ sRs D (f k) (bc (f k))).length ≤ _
    rw [List.length_append]
    omega
set_option maxRecDepth 100000 in
set_option maxHeartbeats 4000000 in
theorem l_94_2 {cn : Nat} {f bc : Nat → Nat} {l0 lim : Int64} (hcn : cn ≤ 16) (hf : ∀ k, k < cn → f k < 16 ∧ WS D (f k) (bc (f k))) {Q : mO × mHp → Prop} : ∀ (z k : Nat) (w6 w7 : Option Value) {I : Nat → Int32} {A : Nat → Nat → Int32}, (DK (A 0) D) → (k + z = cn) → (I 46 = nI cn) → (∀ j, j < cn → A 38 j = nI (f j)) → (SV I A (fl (fun k => sRs D (f k) (bc (f k))) k)) → (∀ I' A', Fr [4, 5, 6, 7, 8, 9, 10, 12, 20, 21, 22] I I' → Fr [2, 10, 11, 12, 13, 14] A A' → SV I' A' (fl (fun k => sRs D (f k) (bc (f k))) cn) → Q (.inl none, hS n u I' A' lim B mk sn L xs X)) → mq 94 23 [some (.ref 1), some (.ref 23), some (.long l0), none, some (.ref 6), some (.int (nI k)), w6, w7] [] (hS n u I A lim B mk sn L xs X) Q := by
  intro z
  induction z with
  | zero =>
    intro k w6 w7 I A h hz hc hsl hS0 kk
    refine x_il2 (pc := 23) rfl rfl ?_
    refine x_al1 (pc := 25) rfl rfl ?_
    refine g_23_5 (pc := 26) (v := nI cn) rfl rfl hc ?_
    refine x_cmpN_ge (pc := 29) (t := 115) rfl rfl (by omega) (by omega) (fun c29 => ?_) (fun c29 => ?_)
    · rw [show k = cn by omega] at hS0
      refine x_ret (pc := 115) rfl rfl ?_
      exact kk I A (Fr_refl _ _) (Fr_refl _ _) hS0
    · omega
  | succ z ih =>
    intro k w6 w7 I A h hz hc hsl hS0 kk
    have q30 := fl_30 hf k (by omega)
    refine x_il2 (pc := 23) rfl rfl ?_
    refine x_al1 (pc := 25) rfl rfl ?_
    refine g_23_5 (pc := 26) (v := nI cn) rfl rfl hc ?_
    refine x_cmpN_ge (pc := 29) (t := 115) rfl rfl (by omega) (by omega) (fun c29 => ?_) (fun c29 => ?_)
    · omega
    · refine x_al1 (pc := 32) rfl rfl ?_
      refine g_1_1 (pc := 33) rfl rfl ?_
      refine x_al1 (pc := 36) rfl rfl ?_
      refine g_23_1 (pc := 37) rfl rfl ?_
      refine x_il2 (pc := 40) rfl rfl ?_
      refine al_24 (pc := 42) (q := k) (v := nI (f k)) rfl rfl (by omega) (hsl k (by omega)) ?_
      refine x_const (pc := 43) (pc' := 45) (.int (nI 8)) rfl rfl rfl rfl ?_
      refine x_k (pc := 45) rfl rfl rfl ⟨Nat.le_of_ble_eq_true rfl, Nat.le_of_ble_eq_true rfl, Nat.le_of_ble_eq_true rfl⟩ rfl (rs_open (I := I) (A := A) (j := 0) h (hf k (by omega)).1 (hf k (by omega)).2 (Nat.zero_le _) (pb_0 D (f k)).symm (fun I1 f1 hR => ?_))
      show mq 94 48 [some (.ref 1), some (.ref 23), some (.long l0), none, some (.ref 6), some (.int (nI k)), w6, w7] [] (hS n u I1 A lim B mk sn L xs X) _
      refine x_const (pc := 48) (pc' := 49) (.int (nI 0)) rfl rfl rfl rfl ?_
      refine x_is2 (pc := 49) (ml' := [some (.ref 1), some (.ref 23), some (.long l0), none, some (.ref 6), some (.int (nI k)), some (.int (nI 0)), w7]) rfl rfl ?_
      refine l_94b_2 (I := I1) (A := A) (x := k) (s := f k) (c := bc (f k)) (Z := fl (fun k => sRs D (f k) (bc (f k))) k) (hf k (by omega)).1 (hf k (by omega)).2 (by omega) (bc (f k)) 0 8 _ h (Nat.zero_add _) hR (by decide) (by rw [show sRs D (f k) 0 = [] from rfl, List.append_nil]; exact SV_fr hS0 f1 (Fr_refl [] A) (by decide) (by decide)) (fun I2 A2 j' w' f2 g2 h2 => ?_)
      refine x_iincN (pc := 109) (c := 1) (ml' := [some (.ref 1), some (.ref 23), some (.long l0), none, some (.ref 6), some (.int (nI (k + 1))), some (.int (nI j')), w']) rfl rfl rfl rfl ?_
      refine x_step (pc := 112) (pc' := 23) rfl rfl rfl rfl ?_
      exact ih (k + 1) _ _ (I := I2) (A := A2) (by rw [g2 0 (by decide)]; exact h) (by omega) ((f2 46 (by decide)).trans ((f1 46 (by decide)).trans hc)) (fun j hj => by rw [g2 38 (by decide)]; exact hsl j hj) h2 (fun I3 A3 f3 g3 h3 => kk I3 A3 (Fr_cons (Fr_cons (Fr_cons (Fr_refl _ _) f1 (by decide)) f2 (by decide)) f3 (by decide)) (Fr_cons (Fr_cons (Fr_refl _ _) g2 (by decide)) g3 (by decide)) h3)
set_option maxRecDepth 100000 in
set_option maxHeartbeats 4000000 in
theorem k_94_2 (h : DK (A 0) D) {cn : Nat} {f bc : Nat → Nat} {lim : Int64} (hcn : cn ≤ 16) (hf : ∀ k, k < cn → f k < 16 ∧ WS D (f k) (bc (f k))) (hc : I 46 = nI cn) (hsl : ∀ j, j < cn → A 38 j = nI (f j)) {Q : mO × mHp → Prop} (kk : ∀ I' A', Fr [4, 5, 6, 7, 8, 9, 10, 12, 13, 20, 21, 22] I I' → Fr [2, 10, 11, 12, 13, 14] A A' → I' 13 = nI 0 → SV I' A' (fl (fun k => sRs D (f k) (bc (f k))) cn) → Q (.inl none, hS n u I' A' lim B mk sn L xs X)) : mq 94 0 [some (.ref 1), some (.ref 23), some (.long lim), none, none, none, none, none] [] (hS n u I A J B mk sn L xs X) Q := by
  refine x_al1 (pc := 0) rfl rfl ?_
  refine g_1_5 (pc := 1) rfl rfl ?_
  refine x_step (pc := 4) (pc' := 5) rfl rfl rfl rfl ?_
  refine x_k (pc := 5) rfl rfl rfl ⟨Nat.le_of_ble_eq_true rfl, Nat.le_of_ble_eq_true rfl, Nat.le_of_ble_eq_true rfl⟩ rfl (k_95 (I := I) (A := A) (lim := lim) ?_)
  show mq 94 8 [some (.ref 1), some (.ref 23), some (.long lim), none, none, none, none, none] [] (hS n u (va_up (va_up I 12 (nI 0)) 13 (nI 0)) A lim B mk sn L xs X) _
  refine x_al1 (pc := 8) rfl rfl ?_
  refine g_1_1 (pc := 9) rfl rfl ?_
  refine g_4_1 (pc := 12) rfl rfl ?_
  refine g_5_0 (pc := 15) rfl rfl ?_
  refine x_as2 (pc := 18) (ml' := [some (.ref 1), some (.ref 23), some (.long lim), none, some (.ref 6), none, none, none]) rfl rfl ?_
  refine x_const (pc := 20) (pc' := 21) (.int (nI 0)) rfl rfl rfl rfl ?_
  refine x_is2 (pc := 21) (ml' := [some (.ref 1), some (.ref 23), some (.long lim), none, some (.ref 6), some (.int (nI 0)), none, none]) rfl rfl ?_
  exact l_94_2 (I := va_up (va_up I 12 (nI 0)) 13 (nI 0)) (A := A) hcn hf cn 0 none none h (Nat.zero_add _) hc hsl ⟨rfl, fun j hj => absurd hj (Nat.not_lt_zero j)⟩ (fun I2 A2 f2 g2 h2 => kk I2 A2 (Fr_cons (Fr_u (Fr_u (Fr_refl _ _) (by decide)) (by decide)) f2 (by decide)) g2 ((f2 13 (by decide)).trans rfl) h2)
set_option maxRecDepth 100000 in
set_option maxHeartbeats 4000000 in
theorem l_94r_3 {s j b q m : Nat} {l0 lim : Int64} {Z : List R5} (hm : m ≤ 4) (hj : j < 200) (hZ : Z.length + m ≤ 512) {Q : mO × mHp → Prop} : ∀ (z k : Nat) {I : Nat → Int32} {A : Nat → Nat → Int32}, (k + z = m) → (I 22 = nI m) → (RBn A D b q m) → (SV I A (Z ++ mp (r5 D b q) k)) → (∀ I' A', Fr [12] I I' → Fr [2] A A' → SV I' A' (Z ++ mp (r5 D b q) m) → mq 94 103 [some (.ref 1), some (.ref 28), some (.long l0), none, some (.ref 6), some (.int (nI s)), some (.int (nI j)), some (.int (nI m))] [] (hS n u I' A' lim B mk sn L xs X) Q) → mq 94 72 [some (.ref 1), some (.ref 28), some (.long l0), none, some (.ref 6), some (.int (nI s)), some (.int (nI j)), some (.int (nI k))] [] (hS n u I A lim B mk sn L xs X) Q := by
  intro z
  induction z with
  | zero =>
    intro k I A hz h22 hr hS0 kk
    refine x_il2 (pc := 72) rfl rfl ?_
    refine x_al2 (pc := 74) rfl rfl ?_
    refine g_6_5 (pc := 76) (v := nI m) rfl rfl h22 ?_
    refine x_cmpN_ge (pc := 79) (t := 103) rfl rfl (by omega) (by omega) (fun c79 => ?_) (fun c79 => ?_)
    · rw [show k = m by omega]
      rw [show k = m by omega] at hS0
      exact kk I A (Fr_refl _ _) (Fr_refl _ _) hS0
    · omega
  | succ z ih =>
    intro k I A hz h22 hr hS0 kk
    refine x_il2 (pc := 72) rfl rfl ?_
    refine x_al2 (pc := 74) rfl rfl ?_
    refine g_6_5 (pc := 76) (v := nI m) rfl rfl h22 ?_
    refine x_cmpN_ge (pc := 79) (t := 103) rfl rfl (by omega) (by omega) (fun c79 => ?_) (fun c79 => ?_)
    · omega
    · refine x_al1 (pc := 82) rfl rfl ?_
      refine g_1_5 (pc := 83) rfl rfl ?_
      refine x_al2 (pc := 86) rfl rfl ?_
      refine g_6_2 (pc := 88) rfl rfl ?_
      refine x_il2 (pc := 91) rfl rfl ?_
      refine al_9 (pc := 93) (q := k) (v := (r5 D b q k).2.2.1) rfl rfl (by omega) ((hr k (by omega)).2.2.1) ?_
      refine x_k (pc := 94) rfl rfl rfl ⟨Nat.le_of_ble_eq_true rfl, Nat.le_of_ble_eq_true rfl, Nat.le_of_ble_eq_true rfl⟩ rfl (k_96 (I := I) (A := A) (Z := Z ++ mp (r5 D b q) k) (r := r5 D b q k) hS0 (by rw [List.length_append, mp_len]; omega) (fun I1 A1 f1 g1 h1 => ?_))
      show mq 94 97 [some (.ref 1), some (.ref 28), some (.long l0), none, some (.ref 6), some (.int (nI s)), some (.int (nI j)), some (.int (nI k))] [] (hS n u I1 A1 lim B mk sn L xs X) _
      refine x_iincN (pc := 97) (c := 1) (ml' := [some (.ref 1), some (.ref 28), some (.long l0), none, some (.ref 6), some (.int (nI s)), some (.int (nI j)), some (.int (nI (k + 1)))]) rfl rfl rfl rfl ?_
      refine x_step (pc := 100) (pc' := 72) rfl rfl rfl rfl ?_
      exact ih (k + 1) (I := I1) (A := A1) (by omega) ((f1 22 (by decide)).trans h22) (fun x hx => by rw [g1 10 (by decide), g1 11 (by decide), g1 12 (by decide), g1 13 (by decide), g1 14 (by decide)]; exact hr x hx) (by rw [List.append_assoc] at h1; exact h1) (fun I2 A2 f2 g2 h2 => kk I2 A2 (Fr_cons f1 f2 (by decide)) (Fr_cons g1 g2 (by decide)) h2)
set_option maxRecDepth 100000 in
set_option maxHeartbeats 4000000 in
theorem l_94b_3 {x s c : Nat} {l0 lim : Int64} {Z : List R5} (hs : s < 16) (hW : WS D s c) (hZ : Z.length + 30 ≤ 512) {Q : mO × mHp → Prop} : ∀ (z j e : Nat) (w7 : Option Value) {I : Nat → Int32} {A : Nat → Nat → Int32}, (DK (A 0) D) → (j + z = c) → (RS I D s j e) → (e < 1000) → (SV I A (Z ++ sRs D s j)) → (∀ I' A' j' w', Fr [7, 8, 9, 10, 12, 20, 21, 22] I I' → Fr [2, 10, 11, 12, 13, 14] A A' → SV I' A' (Z ++ sRs D s c) → mq 94 109 [some (.ref 1), some (.ref 28), some (.long l0), none, some (.ref 6), some (.int (nI x)), some (.int (nI j')), w'] [] (hS n u I' A' lim B mk sn L xs X) Q) → mq 94 51 [some (.ref 1), some (.ref 28), some (.long l0), none, some (.ref 6), some (.int (nI x)), some (.int (nI j)), w7] [] (hS n u I A lim B mk sn L xs X) Q := by
  intro z
  induction z with
  | zero =>
    intro j e w7 I A h hz hR he hS0 kk
    have q8 := WS_8 hW
    have q9 := WS_128 hW
    refine x_il2 (pc := 51) rfl rfl ?_
    refine x_const (pc := 53) (pc' := 56) (.int (nI 128)) rfl rfl rfl rfl ?_
    refine x_cmpN_ge (pc := 56) (t := 109) rfl rfl (by omega) (by omega) (fun c56 => ?_) (fun c56 => ?_)
    · omega
    · refine x_al1 (pc := 59) rfl rfl ?_
      refine g_1_1 (pc := 60) rfl rfl ?_
      refine x_k (pc := 63) rfl rfl rfl ⟨Nat.le_of_ble_eq_true rfl, Nat.le_of_ble_eq_true rfl, Nat.le_of_ble_eq_true rfl⟩ rfl (rs_end (I := I) (A := A) hW (by omega) hR ?_)
      show mq 94 66 [some (.ref 1), some (.ref 28), some (.long l0), none, some (.ref 6), some (.int (nI x)), some (.int (nI j)), w7] [.int (nI 0)] (hS n u I A lim B mk sn L xs X) _
      refine x_ifN_eq (pc := 66) (t := 109) rfl rfl (by decide) (fun _ => ?_) (fun c => absurd c (by decide))
      rw [show j = c by omega] at hS0
      exact kk I A j w7 (Fr_refl _ _) (Fr_refl _ _) hS0
  | succ z ih =>
    intro j e w7 I A h hz hR he hS0 kk
    have hj : j < c := by omega
    have q8 := WS_8 hW
    have q9 := WS_128 hW
    have q30 := sRs_30 hW
    have qm : (sRs D s (j + 1)).length ≤ (sRs D s c).length := fl_mono _ (by omega)
    rw [sRs_succ, List.length_append, bRs_len] at qm
    refine x_il2 (pc := 51) rfl rfl ?_
    refine x_const (pc := 53) (pc' := 56) (.int (nI 128)) rfl rfl rfl rfl ?_
    refine x_cmpN_ge (pc := 56) (t := 109) rfl rfl (by omega) (by omega) (fun c56 => ?_) (fun c56 => ?_)
    · omega
    · refine x_al1 (pc := 59) rfl rfl ?_
      refine g_1_1 (pc := 60) rfl rfl ?_
      refine x_k (pc := 63) rfl rfl rfl ⟨Nat.le_of_ble_eq_true rfl, Nat.le_of_ble_eq_true rfl, Nat.le_of_ble_eq_true rfl⟩ rfl (rs_step (I := I) (A := A) h hs hW hj hR he (fun I1 A1 f1 g1 hR1 e7 e10 hb => ?_))
      show mq 94 66 [some (.ref 1), some (.ref 28), some (.long l0), none, some (.ref 6), some (.int (nI x)), some (.int (nI j)), w7] [.int (nI 1)] (hS n u I1 A1 lim B mk sn L xs X) _
      refine x_ifN_eq (pc := 66) (t := 109) rfl rfl (by decide) (fun c => absurd c (by decide)) (fun _ => ?_)
      refine x_const (pc := 69) (pc' := 70) (.int (nI 0)) rfl rfl rfl rfl ?_
      refine x_is2 (pc := 70) (ml' := [some (.ref 1), some (.ref 28), some (.long l0), none, some (.ref 6), some (.int (nI x)), some (.int (nI j)), some (.int (nI 0))]) rfl rfl ?_
      refine l_94r_3 (I := I1) (A := A1) (s := x) (j := j) (b := bB D s) (q := sb D s j) (m := bN D (sb D s j)) (Z := Z ++ sRs D s j) (WS_b hW hj).2.1 (by omega) (by rw [List.length_append]; omega) (bN D (sb D s j)) 0 (Nat.zero_add _) hb.2.2.1 hb.2.2.2 (by rw [show mp (r5 D (bB D s) (sb D s j)) 0 = [] from rfl, List.append_nil]; exact SV_fr hS0 f1 g1 (by decide) (by decide)) (fun I2 A2 f2 g2 h2 => ?_)
      refine x_iincN (pc := 103) (c := 1) (ml' := [some (.ref 1), some (.ref 28), some (.long l0), none, some (.ref 6), some (.int (nI x)), some (.int (nI (j + 1))), some (.int (nI (bN D (sb D s j))))]) rfl rfl rfl rfl ?_
      refine x_step (pc := 106) (pc' := 51) rfl rfl rfl rfl ?_
      exact ih (j + 1) (eN e (pb D s j)) _ (I := I2) (A := A2) (by rw [g2 0 (by decide), g1 0 (by decide)]; exact h) (by omega) (RS_fr hR1 f2 (by decide) (by decide) (by decide) (by decide) (by decide)) (eN_lt he (pb_le hW (by omega))) (by rw [List.append_assoc] at h2; exact h2) (fun I3 A3 y w f3 g3 h3 => kk I3 A3 y w (Fr_cons (Fr_cons (Fr_cons (Fr_refl _ _) f1 (by decide)) f2 (by decide)) f3 (by decide)) (Fr_cons (Fr_cons (Fr_cons (Fr_refl _ _) g1 (by decide)) g2 (by decide)) g3 (by decide)) h3)
set_option maxRecDepth 100000 in
set_option maxHeartbeats 4000000 in
theorem l_94_3 {cn : Nat} {f bc : Nat → Nat} {l0 lim : Int64} (hcn : cn ≤ 16) (hf : ∀ k, k < cn → f k < 16 ∧ WS D (f k) (bc (f k))) {Q : mO × mHp → Prop} : ∀ (z k : Nat) (w6 w7 : Option Value) {I : Nat → Int32} {A : Nat → Nat → Int32}, (DK (A 0) D) → (k + z = cn) → (I 49 = nI cn) → (∀ j, j < cn → A 42 j = nI (f j)) → (SV I A (fl (fun k => sRs D (f k) (bc (f k))) k)) → (∀ I' A', Fr [4, 5, 6, 7, 8, 9, 10, 12, 20, 21, 22] I I' → Fr [2, 10, 11, 12, 13, 14] A A' → SV I' A' (fl (fun k => sRs D (f k) (bc (f k))) cn) → Q (.inl none, hS n u I' A' lim B mk sn L xs X)) → mq 94 23 [some (.ref 1), some (.ref 28), some (.long l0), none, some (.ref 6), some (.int (nI k)), w6, w7] [] (hS n u I A lim B mk sn L xs X) Q := by
  intro z
  induction z with
  | zero =>
    intro k w6 w7 I A h hz hc hsl hS0 kk
    refine x_il2 (pc := 23) rfl rfl ?_
    refine x_al1 (pc := 25) rfl rfl ?_
    refine g_28_5 (pc := 26) (v := nI cn) rfl rfl hc ?_
    refine x_cmpN_ge (pc := 29) (t := 115) rfl rfl (by omega) (by omega) (fun c29 => ?_) (fun c29 => ?_)
    · rw [show k = cn by omega] at hS0
      refine x_ret (pc := 115) rfl rfl ?_
      exact kk I A (Fr_refl _ _) (Fr_refl _ _) hS0
    · omega
  | succ z ih =>
    intro k w6 w7 I A h hz hc hsl hS0 kk
    have q30 := fl_30 hf k (by omega)
    refine x_il2 (pc := 23) rfl rfl ?_
    refine x_al1 (pc := 25) rfl rfl ?_
    refine g_28_5 (pc := 26) (v := nI cn) rfl rfl hc ?_
    refine x_cmpN_ge (pc := 29) (t := 115) rfl rfl (by omega) (by omega) (fun c29 => ?_) (fun c29 => ?_)
    · omega
    · refine x_al1 (pc := 32) rfl rfl ?_
      refine g_1_1 (pc := 33) rfl rfl ?_
      refine x_al1 (pc := 36) rfl rfl ?_
      refine g_28_1 (pc := 37) rfl rfl ?_
      refine x_il2 (pc := 40) rfl rfl ?_
      refine al_29 (pc := 42) (q := k) (v := nI (f k)) rfl rfl (by omega) (hsl k (by omega)) ?_
      refine x_const (pc := 43) (pc' := 45) (.int (nI 8)) rfl rfl rfl rfl ?_
      refine x_k (pc := 45) rfl rfl rfl ⟨Nat.le_of_ble_eq_true rfl, Nat.le_of_ble_eq_true rfl, Nat.le_of_ble_eq_true rfl⟩ rfl (rs_open (I := I) (A := A) (j := 0) h (hf k (by omega)).1 (hf k (by omega)).2 (Nat.zero_le _) (pb_0 D (f k)).symm (fun I1 f1 hR => ?_))
      show mq 94 48 [some (.ref 1), some (.ref 28), some (.long l0), none, some (.ref 6), some (.int (nI k)), w6, w7] [] (hS n u I1 A lim B mk sn L xs X) _
      refine x_const (pc := 48) (pc' := 49) (.int (nI 0)) rfl rfl rfl rfl ?_
      refine x_is2 (pc := 49) (ml' := [some (.ref 1), some (.ref 28), some (.long l0), none, some (.ref 6), some (.int (nI k)), some (.int (nI 0)), w7]) rfl rfl ?_
      refine l_94b_3 (I := I1) (A := A) (x := k) (s := f k) (c := bc (f k)) (Z := fl (fun k => sRs D (f k) (bc (f k))) k) (hf k (by omega)).1 (hf k (by omega)).2 (by omega) (bc (f k)) 0 8 _ h (Nat.zero_add _) hR (by decide) (by rw [show sRs D (f k) 0 = [] from rfl, List.append_nil]; exact SV_fr hS0 f1 (Fr_refl [] A) (by decide) (by decide)) (fun I2 A2 j' w' f2 g2 h2 => ?_)
      refine x_iincN (pc := 109) (c := 1) (ml' := [some (.ref 1), some (.ref 28), some (.long l0), none, some (.ref 6), some (.int (nI (k + 1))), some (.int (nI j')), w']) rfl rfl rfl rfl ?_
      refine x_step (pc := 112) (pc' := 23) rfl rfl rfl rfl ?_
      exact ih (k + 1) _ _ (I := I2) (A := A2) (by rw [g2 0 (by decide)]; exact h) (by omega) ((f2 49 (by decide)).trans ((f1 49 (by decide)).trans hc)) (fun j hj => by rw [g2 42 (by decide)]; exact hsl j hj) h2 (fun I3 A3 f3 g3 h3 => kk I3 A3 (Fr_cons (Fr_cons (Fr_cons (Fr_refl _ _) f1 (by decide)) f2 (by decide)) f3 (by decide)) (Fr_cons (Fr_cons (Fr_refl _ _) g2 (by decide)) g3 (by decide)) h3)
set_option maxRecDepth 100000 in
set_option maxHeartbeats 4000000 in
theorem k_94_3 (h : DK (A 0) D) {cn : Nat} {f bc : Nat → Nat} {lim : Int64} (hcn : cn ≤ 16) (hf : ∀ k, k < cn → f k < 16 ∧ WS D (f k) (bc (f k))) (hc : I 49 = nI cn) (hsl : ∀ j, j < cn → A 42 j = nI (f j)) {Q : mO × mHp → Prop} (kk : ∀ I' A', Fr [4, 5, 6, 7, 8, 9, 10, 12, 13, 20, 21, 22] I I' → Fr [2, 10, 11, 12, 13, 14] A A' → I' 13 = nI 0 → SV I' A' (fl (fun k => sRs D (f k) (bc (f k))) cn) → Q (.inl none, hS n u I' A' lim B mk sn L xs X)) : mq 94 0 [some (.ref 1), some (.ref 28), some (.long lim), none, none, none, none, none] [] (hS n u I A J B mk sn L xs X) Q := by
  refine x_al1 (pc := 0) rfl rfl ?_
  refine g_1_5 (pc := 1) rfl rfl ?_
  refine x_step (pc := 4) (pc' := 5) rfl rfl rfl rfl ?_
  refine x_k (pc := 5) rfl rfl rfl ⟨Nat.le_of_ble_eq_true rfl, Nat.le_of_ble_eq_true rfl, Nat.le_of_ble_eq_true rfl⟩ rfl (k_95 (I := I) (A := A) (lim := lim) ?_)
  show mq 94 8 [some (.ref 1), some (.ref 28), some (.long lim), none, none, none, none, none] [] (hS n u (va_up (va_up I 12 (nI 0)) 13 (nI 0)) A lim B mk sn L xs X) _
  refine x_al1 (pc := 8) rfl rfl ?_
  refine g_1_1 (pc := 9) rfl rfl ?_
  refine g_4_1 (pc := 12) rfl rfl ?_
  refine g_5_0 (pc := 15) rfl rfl ?_
  refine x_as2 (pc := 18) (ml' := [some (.ref 1), some (.ref 28), some (.long lim), none, some (.ref 6), none, none, none]) rfl rfl ?_
  refine x_const (pc := 20) (pc' := 21) (.int (nI 0)) rfl rfl rfl rfl ?_
  refine x_is2 (pc := 21) (ml' := [some (.ref 1), some (.ref 28), some (.long lim), none, some (.ref 6), some (.int (nI 0)), none, none]) rfl rfl ?_
  exact l_94_3 (I := va_up (va_up I 12 (nI 0)) 13 (nI 0)) (A := A) hcn hf cn 0 none none h (Nat.zero_add _) hc hsl ⟨rfl, fun j hj => absurd hj (Nat.not_lt_zero j)⟩ (fun I2 A2 f2 g2 h2 => kk I2 A2 (Fr_cons (Fr_u (Fr_u (Fr_refl _ _) (by decide)) (by decide)) f2 (by decide)) g2 ((f2 13 (by decide)).trans rfl) h2)
set_option maxRecDepth 100000 in
set_option maxHeartbeats 4000000 in
theorem l_97 {s c a : Nat} {Z : List R5} (hs : s < 16) (hW : WS D s c) (hL : Z.length ≤ 512) (ha : a + (sRs D s c).length ≤ Z.length) {Q : mO × mHp → Prop} : ∀ (z j e : Nat) {I : Nat → Int32} {A : Nat → Nat → Int32}, (DK (A 0) D) → (j + z = c) → (RS I D s j e) → (e < 1000) → (I 13 = nI (a + (sRs D s j).length)) → (Pg 14 3 128 I A (cT D s (fun j k => lo Z J (a + (sRs D s j).length + k) (tR D (sb D s j) k) (dR D (sb D s j) k)) j)) → (SV I A Z) → (∀ I' A' j', Fr [7, 8, 9, 10, 13, 14, 20, 21, 22, 23, 24, 25] I I' → Fr [3, 10, 11, 12, 13, 14, 15, 16, 17, 18, 19] A A' → I' 13 = nI (a + (sRs D s c).length) → Pg 14 3 128 I' A' (cT D s (fun j k => lo Z J (a + (sRs D s j).length + k) (tR D (sb D s j) k) (dR D (sb D s j) k)) c) → mq 97 111 [some (.ref 1), some (.int (nI s)), some (.int (nI (bB D s))), some (.int (nI (cO D s (fun j k => lo Z J (a + (sRs D s j).length + k) (tR D (sb D s j) k) (dR D (sb D s j) k)) c))), some (.int (nI j'))] [] (hS n u I' A' J B mk sn L xs X) Q) → mq 97 48 [some (.ref 1), some (.int (nI s)), some (.int (nI (bB D s))), some (.int (nI (cO D s (fun j k => lo Z J (a + (sRs D s j).length + k) (tR D (sb D s j) k) (dR D (sb D s j) k)) j))), some (.int (nI j))] [] (hS n u I A J B mk sn L xs X) Q := by
  intro z
  induction z with
  | zero =>
    intro j e I A h hz hR he h13 hP hS0 kk
    have q8 := WS_8 hW
    have q9 := WS_128 hW
    refine x_il2 (pc := 48) rfl rfl ?_
    refine x_const (pc := 50) (pc' := 53) (.int (nI 128)) rfl rfl rfl rfl ?_
    refine x_cmpN_ge (pc := 53) (t := 111) rfl rfl (by omega) (by omega) (fun c53 => ?_) (fun c53 => ?_)
    · omega
    · refine x_al1 (pc := 56) rfl rfl ?_
      refine g_1_1 (pc := 57) rfl rfl ?_
      refine x_k (pc := 60) rfl rfl rfl ⟨Nat.le_of_ble_eq_true rfl, Nat.le_of_ble_eq_true rfl, Nat.le_of_ble_eq_true rfl⟩ rfl (rs_end (I := I) (A := A) hW (by omega) hR ?_)
      show mq 97 63 [some (.ref 1), some (.int (nI s)), some (.int (nI (bB D s))), some (.int (nI (cO D s (fun j k => lo Z J (a + (sRs D s j).length + k) (tR D (sb D s j) k) (dR D (sb D s j) k)) j))), some (.int (nI j))] [.int (nI 0)] (hS n u I A J B mk sn L xs X) _
      refine x_ifN_eq (pc := 63) (t := 111) rfl rfl (by decide) (fun _ => ?_) (fun c => absurd c (by decide))
      have hj : j = c := by omega
      rw [hj] at h13 hP
      rw [hj]
      exact kk I A c (Fr_refl _ _) (Fr_refl _ _) h13 hP
  | succ z ih =>
    intro j e I A h hz hR he h13 hP hS0 kk
    have hj : j < c := by omega
    have q8 := WS_8 hW
    have q9 := WS_128 hW
    have q600 := cT_600 hW (fun j k => lo Z J (a + (sRs D s j).length + k) (tR D (sb D s j) k) (dR D (sb D s j) k)) (show j ≤ c by omega)
    have qk := kB_le D s ((fun j k => lo Z J (a + (sRs D s j).length + k) (tR D (sb D s j) k) (dR D (sb D s j) k)) j) j
    have q4 := (WS_b hW hj).2.1
    have qm : (sRs D s (j + 1)).length ≤ (sRs D s c).length := fl_mono _ (by omega)
    rw [sRs_succ, List.length_append, bRs_len] at qm
    refine x_il2 (pc := 48) rfl rfl ?_
    refine x_const (pc := 50) (pc' := 53) (.int (nI 128)) rfl rfl rfl rfl ?_
    refine x_cmpN_ge (pc := 53) (t := 111) rfl rfl (by omega) (by omega) (fun c53 => ?_) (fun c53 => ?_)
    · omega
    · refine x_al1 (pc := 56) rfl rfl ?_
      refine g_1_1 (pc := 57) rfl rfl ?_
      refine x_k (pc := 60) rfl rfl rfl ⟨Nat.le_of_ble_eq_true rfl, Nat.le_of_ble_eq_true rfl, Nat.le_of_ble_eq_true rfl⟩ rfl (rs_step (I := I) (A := A) h hs hW hj hR he (fun I1 A1 f1 g1 hR1 e7 e10 hb => ?_))
      show mq 97 63 [some (.ref 1), some (.int (nI s)), some (.int (nI (bB D s))), some (.int (nI (cO D s (fun j k => lo Z J (a + (sRs D s j).length + k) (tR D (sb D s j) k) (dR D (sb D s j) k)) j))), some (.int (nI j))] [.int (nI 1)] (hS n u I1 A1 J B mk sn L xs X) _
      refine x_ifN_eq (pc := 63) (t := 111) rfl rfl (by decide) (fun c => absurd c (by decide)) (fun _ => ?_)
      refine x_il1 (pc := 66) rfl rfl ?_
      refine x_al1 (pc := 67) rfl rfl ?_
      refine x_al1 (pc := 68) rfl rfl ?_
      refine g_1_1 (pc := 69) rfl rfl ?_
      refine g_4_1 (pc := 72) rfl rfl ?_
      refine x_k (pc := 75) rfl rfl rfl ⟨Nat.le_of_ble_eq_true rfl, Nat.le_of_ble_eq_true rfl, Nat.le_of_ble_eq_true rfl⟩ rfl (k_98 (I := I1) (A := A1) (D := D) (Z := Z) (a := a + (sRs D s j).length) (b := bB D s) (q := sb D s j) (WS_b hW hj).2.1 (WS_b hW hj).2.2.1 hL (by omega) ((f1 13 (by decide)).trans h13) (SV_fr hS0 f1 g1 (by decide) (by decide)) hb (fun I2 A2 f2 g2 x2 b2 => ?_))
      show mq 97 78 [some (.ref 1), some (.int (nI s)), some (.int (nI (bB D s))), some (.int (nI (cO D s (fun j k => lo Z J (a + (sRs D s j).length + k) (tR D (sb D s j) k) (dR D (sb D s j) k)) j))), some (.int (nI j))] [.int (nI (bN D (sb D s j) - (kB D s ((fun j k => lo Z J (a + (sRs D s j).length + k) (tR D (sb D s j) k) (dR D (sb D s j) k)) j) j).length)), .int (nI (cO D s (fun j k => lo Z J (a + (sRs D s j).length + k) (tR D (sb D s j) k) (dR D (sb D s j) k)) j))] (hS n u I2 A2 J B mk sn L xs X) _
      refine x_iaddN (pc := 78) (c := (cO D s (fun j k => lo Z J (a + (sRs D s j).length + k) (tR D (sb D s j) k) (dR D (sb D s j) k)) j) + (bN D (sb D s j) - (kB D s ((fun j k => lo Z J (a + (sRs D s j).length + k) (tR D (sb D s j) k) (dR D (sb D s j) k)) j) j).length)) rfl rfl ?_
      refine x_is1 (pc := 79) (ml' := [some (.ref 1), some (.int (nI s)), some (.int (nI (bB D s))), some (.int (nI ((cO D s (fun j k => lo Z J (a + (sRs D s j).length + k) (tR D (sb D s j) k) (dR D (sb D s j) k)) j) + (bN D (sb D s j) - (kB D s ((fun j k => lo Z J (a + (sRs D s j).length + k) (tR D (sb D s j) k) (dR D (sb D s j) k)) j) j).length)))), some (.int (nI j))]) rfl rfl ?_
      refine x_al1 (pc := 80) rfl rfl ?_
      refine g_1_6 (pc := 81) rfl rfl ?_
      refine g_42_0 (pc := 84) rfl rfl ?_
      refine g_43_5 (pc := 87) (v := nI ((kB D s ((fun j k => lo Z J (a + (sRs D s j).length + k) (tR D (sb D s j) k) (dR D (sb D s j) k)) j) j).length)) rfl rfl b2.2.2.1 ?_
      refine x_ifN_le (pc := 90) (t := 105) rfl rfl (by omega) (fun c90 => ?_) (fun c90 => ?_)
      · refine x_iincN (pc := 105) (c := 1) (ml' := [some (.ref 1), some (.int (nI s)), some (.int (nI (bB D s))), some (.int (nI ((cO D s (fun j k => lo Z J (a + (sRs D s j).length + k) (tR D (sb D s j) k) (dR D (sb D s j) k)) j) + (bN D (sb D s j) - (kB D s ((fun j k => lo Z J (a + (sRs D s j).length + k) (tR D (sb D s j) k) (dR D (sb D s j) k)) j) j).length)))), some (.int (nI (j + 1)))]) rfl rfl rfl rfl ?_
        refine x_step (pc := 108) (pc' := 48) rfl rfl rfl rfl ?_
        have eT : cT D s (fun j k => lo Z J (a + (sRs D s j).length + k) (tR D (sb D s j) k) (dR D (sb D s j) k)) (j + 1) = cT D s (fun j k => lo Z J (a + (sRs D s j).length + k) (tR D (sb D s j) k) (dR D (sb D s j) k)) j := if_pos (by omega)
        refine ih (j + 1) (eN e (pb D s j)) (I := I2) (A := A2) (by rw [(show Fr [3, 10, 11, 12, 13, 14, 15, 16, 17, 18, 19] A A2 from (Fr_cons (Fr_cons (Fr_refl _ _) g1 (by decide)) g2 (by decide))) 0 (by decide)]; exact h) (by omega) (RS_fr hR1 (show Fr [13, 14, 23, 24, 25] I1 I2 from (Fr_cons (Fr_refl _ I1) f2 (by decide))) (by decide) (by decide) (by decide) (by decide) (by decide)) (eN_lt he (pb_le hW (by omega))) ?_ (by rw [eT]; exact (Pg_fr (Pg_fr hP f1 g1 (by decide) (by decide)) f2 g2 (by decide) (by decide))) (SV_fr hS0 (show Fr [7, 8, 9, 10, 13, 14, 20, 21, 22, 23, 24, 25] I I2 from (Fr_cons (Fr_cons (Fr_refl _ _) f1 (by decide)) f2 (by decide))) (show Fr [3, 10, 11, 12, 13, 14, 15, 16, 17, 18, 19] A A2 from (Fr_cons (Fr_cons (Fr_refl _ _) g1 (by decide)) g2 (by decide))) (by decide) (by decide)) (fun I4 A4 y f4 g4 x4 h4 => kk I4 A4 y (Fr_cons (Fr_cons (Fr_cons (Fr_refl _ _) f1 (by decide)) f2 (by decide)) f4 (by decide)) (Fr_cons (Fr_cons (Fr_cons (Fr_refl _ _) g1 (by decide)) g2 (by decide)) g4 (by decide)) x4 h4)
        rw [sRs_succ, List.length_append, bRs_len, ← Nat.add_assoc]
        exact x2
      · refine x_al1 (pc := 93) rfl rfl ?_
        refine g_1_6 (pc := 94) rfl rfl ?_
        refine x_al1 (pc := 97) rfl rfl ?_
        refine g_1_7 (pc := 98) rfl rfl ?_
        refine x_il1 (pc := 101) rfl rfl ?_
        refine x_k (pc := 102) rfl rfl rfl ⟨Nat.le_of_ble_eq_true rfl, Nat.le_of_ble_eq_true rfl, Nat.le_of_ble_eq_true rfl⟩ rfl (k_67_1 (I := I2) (A := A2) (ba := nI (bB D s)) (p := nI (bP D (sb D s j))) (s := bS D (sb D s j)) (l := kB D s ((fun j k => lo Z J (a + (sRs D s j).length + k) (tR D (sb D s j) k) (dR D (sb D s j) k)) j) j) (t := cT D s (fun j k => lo Z J (a + (sRs D s j).length + k) (tR D (sb D s j) k) (dR D (sb D s j) k)) j) (by omega) (by omega) b2 (Pg_fr (Pg_fr hP f1 g1 (by decide) (by decide)) f2 g2 (by decide) (by decide)) (by omega) (fun I3 A3 f3 g3 h3 => ?_))
        show mq 97 105 [some (.ref 1), some (.int (nI s)), some (.int (nI (bB D s))), some (.int (nI ((cO D s (fun j k => lo Z J (a + (sRs D s j).length + k) (tR D (sb D s j) k) (dR D (sb D s j) k)) j) + (bN D (sb D s j) - (kB D s ((fun j k => lo Z J (a + (sRs D s j).length + k) (tR D (sb D s j) k) (dR D (sb D s j) k)) j) j).length)))), some (.int (nI j))] [] (hS n u I3 A3 J B mk sn L xs X) _
        refine x_iincN (pc := 105) (c := 1) (ml' := [some (.ref 1), some (.int (nI s)), some (.int (nI (bB D s))), some (.int (nI ((cO D s (fun j k => lo Z J (a + (sRs D s j).length + k) (tR D (sb D s j) k) (dR D (sb D s j) k)) j) + (bN D (sb D s j) - (kB D s ((fun j k => lo Z J (a + (sRs D s j).length + k) (tR D (sb D s j) k) (dR D (sb D s j) k)) j) j).length)))), some (.int (nI (j + 1)))]) rfl rfl rfl rfl ?_
        refine x_step (pc := 108) (pc' := 48) rfl rfl rfl rfl ?_
        have eT : cT D s (fun j k => lo Z J (a + (sRs D s j).length + k) (tR D (sb D s j) k) (dR D (sb D s j) k)) (j + 1) = cT D s (fun j k => lo Z J (a + (sRs D s j).length + k) (tR D (sb D s j) k) (dR D (sb D s j) k)) j ++ eBt (nI (bB D s)) (nI (bP D (sb D s j))) (bS D (sb D s j)) (kB D s ((fun j k => lo Z J (a + (sRs D s j).length + k) (tR D (sb D s j) k) (dR D (sb D s j) k)) j) j) := if_neg (by omega)
        refine ih (j + 1) (eN e (pb D s j)) (I := I3) (A := A3) (by rw [(show Fr [3, 10, 11, 12, 13, 14, 15, 16, 17, 18, 19] A A3 from (Fr_cons (Fr_cons (Fr_cons (Fr_refl _ _) g1 (by decide)) g2 (by decide)) g3 (by decide))) 0 (by decide)]; exact h) (by omega) (RS_fr hR1 (show Fr [13, 14, 23, 24, 25] I1 I3 from (Fr_cons (Fr_cons (Fr_refl _ I1) f2 (by decide)) f3 (by decide))) (by decide) (by decide) (by decide) (by decide) (by decide)) (eN_lt he (pb_le hW (by omega))) ?_ (by rw [eT]; exact h3) (SV_fr hS0 (show Fr [7, 8, 9, 10, 13, 14, 20, 21, 22, 23, 24, 25] I I3 from (Fr_cons (Fr_cons (Fr_cons (Fr_refl _ _) f1 (by decide)) f2 (by decide)) f3 (by decide))) (show Fr [3, 10, 11, 12, 13, 14, 15, 16, 17, 18, 19] A A3 from (Fr_cons (Fr_cons (Fr_cons (Fr_refl _ _) g1 (by decide)) g2 (by decide)) g3 (by decide))) (by decide) (by decide)) (fun I4 A4 y f4 g4 x4 h4 => kk I4 A4 y (Fr_cons (Fr_cons (Fr_cons (Fr_cons (Fr_refl _ _) f1 (by decide)) f2 (by decide)) f3 (by decide)) f4 (by decide)) (Fr_cons (Fr_cons (Fr_cons (Fr_cons (Fr_refl _ _) g1 (by decide)) g2 (by decide)) g3 (by decide)) g4 (by decide)) x4 h4)
        rw [sRs_succ, List.length_append, bRs_len, ← Nat.add_assoc]
        exact (f3 13 (by decide)).trans x2
set_option maxRecDepth 100000 in
set_option maxHeartbeats 4000000 in
theorem k_97 (h : DK (A 0) D) {s c a : Nat} {Z : List R5} (hs : s < 16) (hW : WS D s c) (hL : Z.length ≤ 512) (ha : a + (sRs D s c).length ≤ Z.length) (h13 : I 13 = nI a) (hS0 : SV I A Z) (hbb : bB D s < 2 ^ 32) {Q : mO × mHp → Prop} (kk : ∀ I' A', Fr [4, 5, 6, 7, 8, 9, 10, 13, 14, 20, 21, 22, 23, 24, 25] I I' → Fr [3, 10, 11, 12, 13, 14, 15, 16, 17, 18, 19] A A' → I' 13 = nI (a + (sRs D s c).length) → Pg 14 3 128 I' A' (cF D s (fun j k => lo Z J (a + (sRs D s j).length + k) (tR D (sb D s j) k) (dR D (sb D s j) k)) c) → Q (.inl (some (.int (nI (cO D s (fun j k => lo Z J (a + (sRs D s j).length + k) (tR D (sb D s j) k) (dR D (sb D s j) k)) c)))), hS n u I' A' J B mk sn L xs X)) : mq 97 0 [some (.ref 1), some (.int (nI s)), none, none, none] [] (hS n u I A J B mk sn L xs X) Q := by
  refine x_al1 (pc := 0) rfl rfl ?_
  refine g_1_0 (pc := 1) rfl rfl ?_
  refine x_il1 (pc := 4) rfl rfl ?_
  refine x_k (pc := 5) rfl rfl rfl ⟨Nat.le_of_ble_eq_true rfl, Nat.le_of_ble_eq_true rfl, Nat.le_of_ble_eq_true rfl⟩ rfl (mq_k (c_22 h hs) ?_)
  show mq 97 8 [some (.ref 1), some (.int (nI s)), none, none, none] [.int (nI (bB D s))] (hS n u I A J B mk sn L xs X) _
  refine x_is1 (pc := 8) (ml' := [some (.ref 1), some (.int (nI s)), some (.int (nI (bB D s))), none, none]) rfl rfl ?_
  refine x_const (pc := 9) (pc' := 10) (.int (nI 0)) rfl rfl rfl rfl ?_
  refine x_is1 (pc := 10) (ml' := [some (.ref 1), some (.int (nI s)), some (.int (nI (bB D s))), some (.int (nI 0)), none]) rfl rfl ?_
  refine x_al1 (pc := 11) rfl rfl ?_
  refine g_1_7 (pc := 12) rfl rfl ?_
  refine x_const (pc := 15) (pc' := 16) (.int (nI 0)) rfl rfl rfl rfl ?_
  refine x_const (pc := 16) (pc' := 17) (.int (nI 0)) rfl rfl rfl rfl ?_
  refine x_al1 (pc := 17) rfl rfl ?_
  refine g_1_0 (pc := 18) rfl rfl ?_
  refine x_il1 (pc := 21) rfl rfl ?_
  refine x_k (pc := 22) rfl rfl rfl ⟨Nat.le_of_ble_eq_true rfl, Nat.le_of_ble_eq_true rfl, Nat.le_of_ble_eq_true rfl⟩ rfl (mq_k (c_23 h hs) ?_)
  show mq 97 25 [some (.ref 1), some (.int (nI s)), some (.int (nI (bB D s))), some (.int (nI 0)), none] [.int (nI (gB D s)), .int (nI 0), .int (nI 0), .ref 49] (hS n u I A J B mk sn L xs X) _
  refine x_const (pc := 25) (pc' := 26) (.int (nI 1)) rfl rfl rfl rfl ?_
  refine x_iaddN (pc := 26) (c := (gB D s) + 1) rfl rfl ?_
  refine x_const (pc := 27) (pc' := 30) (.int (nI 255)) rfl rfl rfl rfl ?_
  refine x_iandV (pc := 30) (v := nI ((gB D s + 1) % 2 ^ 8)) rfl (pk_andN (by have := h.2.1 (128 * s + 3); unfold gB; omega) 8 (by decide)) ?_
  refine x_il1 (pc := 31) rfl rfl ?_
  refine x_k (pc := 32) rfl rfl rfl ⟨Nat.le_of_ble_eq_true rfl, Nat.le_of_ble_eq_true rfl, Nat.le_of_ble_eq_true rfl⟩ rfl (k_72_49 (I := I) (A := A) (m := 0) (o := 0) (g := (gB D s + 1) % 2 ^ 8) (b := bB D s) (by decide) hbb (fun I1 A1 f1 g1 h1 => ?_))
  show mq 97 35 [some (.ref 1), some (.int (nI s)), some (.int (nI (bB D s))), some (.int (nI 0)), none] [] (hS n u I1 A1 J B mk sn L xs X) _
  refine x_al1 (pc := 35) rfl rfl ?_
  refine g_1_1 (pc := 36) rfl rfl ?_
  refine x_il1 (pc := 39) rfl rfl ?_
  refine x_const (pc := 40) (pc' := 42) (.int (nI 8)) rfl rfl rfl rfl ?_
  refine x_k (pc := 42) rfl rfl rfl ⟨Nat.le_of_ble_eq_true rfl, Nat.le_of_ble_eq_true rfl, Nat.le_of_ble_eq_true rfl⟩ rfl (rs_open (I := I1) (A := A1) (j := 0) (by rw [g1 0 (by decide)]; exact h) hs hW (Nat.zero_le _) (pb_0 D s).symm (fun I2 f2 hR => ?_))
  show mq 97 45 [some (.ref 1), some (.int (nI s)), some (.int (nI (bB D s))), some (.int (nI 0)), none] [] (hS n u I2 A1 J B mk sn L xs X) _
  refine x_const (pc := 45) (pc' := 46) (.int (nI 0)) rfl rfl rfl rfl ?_
  refine x_is2 (pc := 46) (ml' := [some (.ref 1), some (.int (nI s)), some (.int (nI (bB D s))), some (.int (nI 0)), some (.int (nI 0))]) rfl rfl ?_
  rw [hdr_mod] at h1
  refine l_97 (I := I2) (A := A1) (Z := Z) (a := a) hs hW hL ha c 0 8 (by rw [g1 0 (by decide)]; exact h) (Nat.zero_add _) hR (by decide) ((f2 13 (by decide)).trans ((f1 13 (by decide)).trans h13)) (Pg_fr h1 f2 (Fr_refl [] A1) (by decide) (by decide)) (SV_fr (SV_fr hS0 f1 g1 (by decide) (by decide)) f2 (Fr_refl [] A1) (by decide) (by decide)) (fun I3 A3 y f3 g3 x3 h3 => ?_)
  have q600 := cT_600 hW (fun j k => lo Z J (a + (sRs D s j).length + k) (tR D (sb D s j) k) (dR D (sb D s j) k)) (Nat.le_refl c)
  have q8 := cT_8 D s (fun j k => lo Z J (a + (sRs D s j).length + k) (tR D (sb D s j) k) (dR D (sb D s j) k)) c
  refine x_al1 (pc := 111) rfl rfl ?_
  refine g_1_7 (pc := 112) rfl rfl ?_
  refine x_const (pc := 115) (pc' := 116) (.int (nI 0)) rfl rfl rfl rfl ?_
  refine x_al1 (pc := 116) rfl rfl ?_
  refine g_1_7 (pc := 117) rfl rfl ?_
  refine g_49_1 (pc := 120) (v := nI ((cT D s (fun j k => lo Z J (a + (sRs D s j).length + k) (tR D (sb D s j) k) (dR D (sb D s j) k)) c).length)) rfl rfl h3.1 ?_
  refine x_const (pc := 123) (pc' := 124) (.int (nI 2)) rfl rfl rfl rfl ?_
  refine x_k (pc := 124) rfl rfl rfl ⟨Nat.le_of_ble_eq_true rfl, Nat.le_of_ble_eq_true rfl, Nat.le_of_ble_eq_true rfl⟩ rfl (k_70_2 (I := I3) (A := A3) (m := (cT D s (fun j k => lo Z J (a + (sRs D s j).length + k) (tR D (sb D s j) k) (dR D (sb D s j) k)) c).length) (l := cT D s (fun j k => lo Z J (a + (sRs D s j).length + k) (tR D (sb D s j) k) (dR D (sb D s j) k)) c) h3 (by omega) (by omega) (fun I4 A4 f4 g4 h4 => ?_))
  show mq 97 127 [some (.ref 1), some (.int (nI s)), some (.int (nI (bB D s))), some (.int (nI (cO D s (fun j k => lo Z J (a + (sRs D s j).length + k) (tR D (sb D s j) k) (dR D (sb D s j) k)) c))), some (.int (nI y))] [] (hS n u I4 A4 J B mk sn L xs X) _
  refine x_il1 (pc := 127) rfl rfl ?_
  refine x_ret (pc := 128) rfl rfl ?_
  exact kk I4 A4 (Fr_cons (Fr_cons (Fr_cons (Fr_cons (Fr_refl _ _) f1 (by decide)) f2 (by decide)) f3 (by decide)) f4 (by decide)) (Fr_cons (Fr_cons (Fr_cons (Fr_refl _ _) g1 (by decide)) g3 (by decide)) g4 (by decide)) ((f4 13 (by decide)).trans x3) h4
end S65
