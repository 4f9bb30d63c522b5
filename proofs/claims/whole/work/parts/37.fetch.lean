/-! Fetch: what is found; the class. -/
abbrev R5 : Type := Int32 × Int32 × Int32 × Int32 × Int32
def r5 (D : Nat → Nat) (b q k : Nat) : R5 := (oR D b q k, tR D q k, kR D q k, vR D q k, nI (dR D q k))
def gR (l : List R5) (i : Nat) : R5 := l.getD i (0, 0, 0, 0, 0)
theorem gR_lt {l : List R5} {v : R5} {i : Nat} (h : i < l.length) : gR (l ++ [v]) i = gR l i := by
  simp [gR, List.getElem?_append_left h]
theorem gR_at (l : List R5) (v : R5) : gR (l ++ [v]) l.length = v := by
  simp [gR]
/-- the records of a batch, of a slot, of a log that a fetch takes -/
def fR (D : Nat → Nat) (b q : Nat) (o : Int32) (n : Nat) : Nat → Nat → List R5 → List R5
  | 0, _, l => l
  | z + 1, k, l => if n ≤ l.length then l else if oR D b q k < o then fR D b q o n z (k + 1) l else fR D b q o n z (k + 1) (l ++ [r5 D b q k])
def fB (D : Nat → Nat) (s : Nat) (o : Int32) (n : Nat) : Nat → Nat → List R5 → Int32 → List R5 × Int32
  | 0, _, l, x => (l, x)
  | z + 1, j, l, x => if n ≤ l.length then (l, x) else fB D s o n z (j + 1) (fR D (bB D s) (sb D s j) o n (bN D (sb D s j)) 0 l) (x + 1)
def fG (D : Nat → Nat) (f bc : Nat → Nat) (o : Int32) (n : Nat) : Nat → Nat → Nat → List R5 → Int32 → List R5 × Int32
  | 0, _, _, l, x => (l, x)
  | z + 1, i, j, l, x => if n ≤ l.length then (l, x) else fG D f bc o n z (i + 1) 0 (fB D (f i) o n (bc (f i) - j) j l x).1 (fB D (f i) o n (bc (f i) - j) j l x).2
/-- the batch with the index's entry for an offset -/
def eB (D : Nat → Nat) (s : Nat) (o : Int32) : Nat → Nat → Nat → Nat → Nat
  | 0, _, _, r => r
  | z + 1, j, e, r => eB D s o z (j + 1) (eN e (pb D s j)) (if e ≤ pb D s j ∧ oR D (bB D s) (sb D s j) 0 ≤ o then j else r)
theorem fR_len (D : Nat → Nat) (b q : Nat) (o : Int32) (n : Nat) : ∀ z k l, l.length ≤ n → (fR D b q o n z k l).length ≤ n
  | 0, _, _, h => h
  | z + 1, k, l, h => by
    unfold fR
    split
    · exact h
    · split
      · exact fR_len D b q o n z (k + 1) l h
      · exact fR_len D b q o n z (k + 1) _ (by simp; omega)
theorem fB_len (D : Nat → Nat) (s : Nat) (o : Int32) (n : Nat) : ∀ z j l x, l.length ≤ n → (fB D s o n z j l x).1.length ≤ n
  | 0, _, _, _, h => h
  | z + 1, j, l, x, h => by
    unfold fB
    split
    · exact h
    · exact fB_len D s o n z (j + 1) _ _ (fR_len _ _ _ _ _ _ _ _ h)
theorem fG_len (D : Nat → Nat) (f bc : Nat → Nat) (o : Int32) (n : Nat) : ∀ z i j l x, l.length ≤ n → (fG D f bc o n z i j l x).1.length ≤ n
  | 0, _, _, _, _, h => h
  | z + 1, i, j, l, x, h => by
    unfold fG
    split
    · exact h
    · exact fG_len D f bc o n z (i + 1) 0 _ _ (fB_len _ _ _ _ _ _ _ _ h)
theorem eB_le (D : Nat → Nat) (s : Nat) (o : Int32) : ∀ z j e r, r ≤ j + z → eB D s o z j e r ≤ j + z
  | 0, _, _, _, h => h
  | z + 1, j, e, r, h => by
    unfold eB
    have := eB_le D s o z (j + 1) (eN e (pb D s j)) (if e ≤ pb D s j ∧ oR D (bB D s) (sb D s j) 0 ≤ o then j else r) (by split <;> omega)
    omega
/-- the class's found records -/
def FC (I : Nat → Int32) (A : Nat → Nat → Int32) (l : List R5) : Prop := I 16 = nI l.length ∧ ∀ i, i < l.length → A 5 i = (gR l i).1 ∧ A 6 i = (gR l i).2.1 ∧ A 7 i = (gR l i).2.2.1 ∧ A 8 i = (gR l i).2.2.2.1 ∧ A 9 i = (gR l i).2.2.2.2
theorem FC_s {I I' : Nat → Int32} {A A' : Nat → Nat → Int32} {l : List R5} {v : R5} (h : FC I A l) (hI : I' 16 = nI (l.length + 1)) (e0 : A' 5 = upd (A 5) l.length v.1) (e1 : A' 6 = upd (A 6) l.length v.2.1) (e2 : A' 7 = upd (A 7) l.length v.2.2.1) (e3 : A' 8 = upd (A 8) l.length v.2.2.2.1) (e4 : A' 9 = upd (A 9) l.length v.2.2.2.2) : FC I' A' (l ++ [v]) := by
  refine ⟨by rw [hI]; simp, fun i hi => ?_⟩
  rw [e0, e1, e2, e3, e4]
  by_cases hl : i = l.length
  · subst hl
    rw [gR_at]
    exact ⟨pk_us, pk_us, pk_us, pk_us, pk_us⟩
  · have hi' : i < l.length := by
      simp at hi
      omega
    rw [gR_lt hi', pk_un hl, pk_un hl, pk_un hl, pk_un hl, pk_un hl]
    exact h.2 i hi'
theorem FC_fr {SI SA : List Nat} {I I' : Nat → Int32} {A A' : Nat → Nat → Int32} {l : List R5} (h : FC I A l) (f : Fr SI I I') (g : Fr SA A A') (hs : 16 ∉ SI) (h5 : 5 ∉ SA) (h6 : 6 ∉ SA) (h7 : 7 ∉ SA) (h8 : 8 ∉ SA) (h9 : 9 ∉ SA) : FC I' A' l := ⟨(f 16 hs).trans h.1, fun i hi => by
  rw [g 5 h5, g 6 h6, g 7 h7, g 8 h8, g 9 h9]
  exact h.2 i hi⟩
section S37
variable {n u : Nat} {I : Nat → Int32} {A : Nat → Nat → Int32} {J : Int64} {B : Nat → Int64} {mk sn L : Nat} {xs : Nat → Int32} {X : Nat → mC} {D : Nat → Nat} 
set_option maxRecDepth 100000 in
set_option maxHeartbeats 4000000 in
theorem k_81_34 {c k m : Nat} (h16 : I 16 = nI c) (hc : c < 8) (h22 : I 22 = nI m) (hk : k < m) (hm : m ≤ 4) {Q : mO × mHp → Prop} (kk : ∀ I' A', Fr [16] I I' → Fr [5, 6, 7, 8, 9] A A' → I' 16 = nI (c + 1) → A' 5 = upd (A 5) c (A 10 k) → A' 6 = upd (A 6) c (A 11 k) → A' 7 = upd (A 7) c (A 12 k) → A' 8 = upd (A 8) c (A 13 k) → A' 9 = upd (A 9) c (A 14 k) → Q (.inl none, hS n u I' A' J B mk sn L xs X)) : mq 81 0 [some (.ref 34), some (.ref 6), some (.int (nI k))] [] (hS n u I A J B mk sn L xs X) Q := by
  refine x_il1 (pc := 0) rfl rfl ?_
  refine x_ifN_lt (pc := 1) (t := 47) rfl rfl (by omega) ?_
  refine x_il1 (pc := 4) rfl rfl ?_
  refine x_al1 (pc := 5) rfl rfl ?_
  refine g_6_5 (pc := 6) (v := nI m) rfl rfl h22 ?_
  refine x_cmpN_ge (pc := 9) (t := 47) rfl rfl (by omega) (by omega) (fun c9 => ?_) (fun c9 => ?_)
  · omega
  · refine x_al1 (pc := 12) rfl rfl ?_
    refine x_al1 (pc := 13) rfl rfl ?_
    refine g_6_0 (pc := 14) rfl rfl ?_
    refine x_il1 (pc := 17) rfl rfl ?_
    refine al_7 (pc := 18) (q := k) (v := (A 10) k) rfl rfl (by omega) rfl ?_
    refine x_al1 (pc := 19) rfl rfl ?_
    refine g_6_1 (pc := 20) rfl rfl ?_
    refine x_il1 (pc := 23) rfl rfl ?_
    refine al_8 (pc := 24) (q := k) (v := (A 11) k) rfl rfl (by omega) rfl ?_
    refine x_al1 (pc := 25) rfl rfl ?_
    refine g_6_2 (pc := 26) rfl rfl ?_
    refine x_il1 (pc := 29) rfl rfl ?_
    refine al_9 (pc := 30) (q := k) (v := (A 12) k) rfl rfl (by omega) rfl ?_
    refine x_al1 (pc := 31) rfl rfl ?_
    refine g_6_3 (pc := 32) rfl rfl ?_
    refine x_il1 (pc := 35) rfl rfl ?_
    refine al_10 (pc := 36) (q := k) (v := (A 13) k) rfl rfl (by omega) rfl ?_
    refine x_al1 (pc := 37) rfl rfl ?_
    refine g_6_4 (pc := 38) rfl rfl ?_
    refine x_il1 (pc := 41) rfl rfl ?_
    refine al_11 (pc := 42) (q := k) (v := (A 14) k) rfl rfl (by omega) rfl ?_
    refine x_k (pc := 43) rfl rfl rfl ⟨Nat.le_of_ble_eq_true rfl, Nat.le_of_ble_eq_true rfl, Nat.le_of_ble_eq_true rfl⟩ rfl (mq_k (c_12_34 (m := c) h16 hc _ _ _ _ _) ?_)
    show mq 81 46 [some (.ref 34), some (.ref 6), some (.int (nI k))] [.int (nI 1)] (hS n u (va_up I 16 (nI (c + 1))) (va_up (va_up (va_up (va_up (va_up A 5 (upd (A 5) c ((A 10) k))) 6 (upd (A 6) c ((A 11) k))) 7 (upd (A 7) c ((A 12) k))) 8 (upd (A 8) c ((A 13) k))) 9 (upd (A 9) c ((A 14) k))) J B mk sn L xs X) _
    refine x_step (pc := 46) (pc' := 47) (st' := []) rfl rfl rfl rfl ?_
    refine x_ret (pc := 47) rfl rfl ?_
    exact kk _ _ (Fr_u (Fr_refl _ _) (by decide)) (Fr_u (Fr_u (Fr_u (Fr_u (Fr_u (Fr_refl _ _) (by decide)) (by decide)) (by decide)) (by decide)) (by decide)) rfl rfl rfl rfl rfl rfl
set_option maxRecDepth 100000 in
set_option maxHeartbeats 4000000 in
theorem l_80r {s i b q m nn : Nat} {o pl : Int32} (hm : m ≤ 4) (hnn : nn ≤ 8) {Q : mO × mHp → Prop} : ∀ (z k : Nat) (l : List R5) {I : Nat → Int32} {A : Nat → Nat → Int32}, (k + z = m) → (I 22 = nI m) → (RBn A D b q m) → (l.length ≤ nn) → (FC I A l) → (∀ I' A' k', Fr [16] I I' → Fr [5, 6, 7, 8, 9] A A' → FC I' A' (fR D b q o nn z k l) → mq 80 118 [some (.ref 1), some (.int (nI s)), some (.int pl), some (.int o), some (.int (nI nn)), some (.ref 6), some (.int (nI i)), some (.int (nI k'))] [] (hS n u I' A' J B mk sn L xs X) Q) → mq 80 67 [some (.ref 1), some (.int (nI s)), some (.int pl), some (.int o), some (.int (nI nn)), some (.ref 6), some (.int (nI i)), some (.int (nI k))] [] (hS n u I A J B mk sn L xs X) Q := by
  intro z
  induction z with
  | zero =>
    intro k l I A hz h22 hr hln hF kk
    refine x_il2 (pc := 67) rfl rfl ?_
    refine x_al2 (pc := 69) rfl rfl ?_
    refine g_6_5 (pc := 71) (v := nI m) rfl rfl h22 ?_
    refine x_cmpN_ge (pc := 74) (t := 118) rfl rfl (by omega) (by omega) (fun c74 => ?_) (fun c74 => ?_)
    · exact kk I A k (Fr_refl _ _) (Fr_refl _ _) hF
    · omega
  | succ z ih =>
    intro k l I A hz h22 hr hln hF kk
    refine x_il2 (pc := 67) rfl rfl ?_
    refine x_al2 (pc := 69) rfl rfl ?_
    refine g_6_5 (pc := 71) (v := nI m) rfl rfl h22 ?_
    refine x_cmpN_ge (pc := 74) (t := 118) rfl rfl (by omega) (by omega) (fun c74 => ?_) (fun c74 => ?_)
    · omega
    · refine x_al1 (pc := 77) rfl rfl ?_
      refine g_1_4 (pc := 78) rfl rfl ?_
      refine g_34_5 (pc := 81) (v := nI l.length) rfl rfl hF.1 ?_
      refine x_il2 (pc := 84) rfl rfl ?_
      refine x_cmpN_ge (pc := 86) (t := 118) rfl rfl (by omega) (by omega) (fun c86 => ?_) (fun c86 => ?_)
      · have ev : fR D b q o nn (z + 1) k l = l := by
          unfold fR
          rw [if_pos c86]
        rw [ev] at kk
        exact kk I A k (Fr_refl _ _) (Fr_refl _ _) hF
      · refine x_al2 (pc := 89) rfl rfl ?_
        refine g_6_0 (pc := 91) rfl rfl ?_
        refine x_il2 (pc := 94) rfl rfl ?_
        refine al_7 (pc := 96) (q := k) (v := oR D b q k) rfl rfl (by omega) ((hr k (by omega)).1) ?_
        refine x_il1 (pc := 97) rfl rfl ?_
        refine x_cmp_lt (pc := 98) (t := 112) rfl rfl rfl (fun c98 => ?_) (fun c98 => ?_)
        · refine x_iincN (pc := 112) (c := 1) (ml' := [some (.ref 1), some (.int (nI s)), some (.int pl), some (.int o), some (.int (nI nn)), some (.ref 6), some (.int (nI i)), some (.int (nI (k + 1)))]) rfl rfl rfl rfl ?_
          refine x_step (pc := 115) (pc' := 67) rfl rfl rfl rfl ?_
          have ev : fR D b q o nn (z + 1) k l = fR D b q o nn z (k + 1) l := by
            conv => lhs; unfold fR
            rw [if_neg c86, if_pos c98]
          rw [ev] at kk
          exact ih (k + 1) l (by omega) h22 hr hln hF kk
        · refine x_al1 (pc := 101) rfl rfl ?_
          refine g_1_4 (pc := 102) rfl rfl ?_
          refine x_al2 (pc := 105) rfl rfl ?_
          refine x_il2 (pc := 107) rfl rfl ?_
          refine x_k (pc := 109) rfl rfl rfl ⟨Nat.le_of_ble_eq_true rfl, Nat.le_of_ble_eq_true rfl, Nat.le_of_ble_eq_true rfl⟩ rfl (k_81_34 (I := I) (A := A) (c := l.length) (m := m) hF.1 (by omega) h22 (by omega) hm (fun I1 A1 f1 g1 e0 e1 e2 e3 e4 e5 => ?_))
          show mq 80 112 [some (.ref 1), some (.int (nI s)), some (.int pl), some (.int o), some (.int (nI nn)), some (.ref 6), some (.int (nI i)), some (.int (nI k))] [] (hS n u I1 A1 J B mk sn L xs X) _
          refine x_iincN (pc := 112) (c := 1) (ml' := [some (.ref 1), some (.int (nI s)), some (.int pl), some (.int o), some (.int (nI nn)), some (.ref 6), some (.int (nI i)), some (.int (nI (k + 1)))]) rfl rfl rfl rfl ?_
          refine x_step (pc := 115) (pc' := 67) rfl rfl rfl rfl ?_
          have ev : fR D b q o nn (z + 1) k l = fR D b q o nn z (k + 1) (l ++ [r5 D b q k]) := by
            conv => lhs; unfold fR
            rw [if_neg c86, if_neg c98]
          rw [ev] at kk
          have hb := hr k (by omega)
          rw [hb.1] at e1
          rw [hb.2.1] at e2
          rw [hb.2.2.1] at e3
          rw [hb.2.2.2.1] at e4
          rw [hb.2.2.2.2] at e5
          exact ih (k + 1) (l ++ [r5 D b q k]) (I := I1) (A := A1) (by omega) ((f1 22 (by decide)).trans h22) (fun j hj => by rw [g1 10 (by decide), g1 11 (by decide), g1 12 (by decide), g1 13 (by decide), g1 14 (by decide)]; exact hr j hj) (by simp; omega) (FC_s hF e0 e1 e2 e3 e4 e5) (fun I2 A2 k2 f2 g2 hF2 => kk I2 A2 k2 (Fr_cons f1 f2 (by decide)) (Fr_cons g1 g2 (by decide)) hF2)
set_option maxRecDepth 100000 in
set_option maxHeartbeats 4000000 in
theorem l_80 {s c nn : Nat} {o pl : Int32} (hs : s < 16) (hW : WS D s c) (hnn : nn ≤ 8) {Q : mO × mHp → Prop} : ∀ (z j i e : Nat) (l : List R5) (x : Int32) (w7 : Option Value) {I : Nat → Int32} {A : Nat → Nat → Int32}, (DK (A 0) D) → (j + z = c) → (i ≤ j) → (RS I D s j e) → (e < 1000) → (l.length ≤ nn) → (FC I A l) → (I 11 = x) → (∀ I' A', Fr [4, 5, 6, 7, 8, 9, 10, 11, 16, 20, 21, 22] I I' → Fr [5, 6, 7, 8, 9, 10, 11, 12, 13, 14] A A' → FC I' A' (fB D s o nn z j l x).1 → I' 11 = (fB D s o nn z j l x).2 → Q (.inl none, hS n u I' A' J B mk sn L xs X)) → mq 80 24 [some (.ref 1), some (.int (nI s)), some (.int pl), some (.int o), some (.int (nI nn)), some (.ref 6), some (.int (nI i)), w7] [] (hS n u I A J B mk sn L xs X) Q := by
  intro z
  induction z with
  | zero =>
    intro j i e l x w7 I A h hz hij hR he hln hF h11 kk
    have q8 := WS_8 hW
    have q9 := WS_128 hW
    refine x_il2 (pc := 24) rfl rfl ?_
    refine x_const (pc := 26) (pc' := 29) (.int (nI 128)) rfl rfl rfl rfl ?_
    refine x_cmpN_ge (pc := 29) (t := 124) rfl rfl (by omega) (by omega) (fun c29 => ?_) (fun c29 => ?_)
    · omega
    · refine x_al1 (pc := 32) rfl rfl ?_
      refine g_1_4 (pc := 33) rfl rfl ?_
      refine g_34_5 (pc := 36) (v := nI l.length) rfl rfl hF.1 ?_
      refine x_il2 (pc := 39) rfl rfl ?_
      refine x_cmpN_ge (pc := 41) (t := 124) rfl rfl (by omega) (by omega) (fun c41 => ?_) (fun c41 => ?_)
      · refine x_ret (pc := 124) rfl rfl ?_
        exact kk I A (Fr_refl _ _) (Fr_refl _ _) hF h11
      · refine x_al1 (pc := 44) rfl rfl ?_
        refine g_1_1 (pc := 45) rfl rfl ?_
        refine x_k (pc := 48) rfl rfl rfl ⟨Nat.le_of_ble_eq_true rfl, Nat.le_of_ble_eq_true rfl, Nat.le_of_ble_eq_true rfl⟩ rfl (rs_end hW (by omega) hR ?_)
        show mq 80 51 [some (.ref 1), some (.int (nI s)), some (.int pl), some (.int o), some (.int (nI nn)), some (.ref 6), some (.int (nI i)), w7] [.int (nI 0)] (hS n u I A J B mk sn L xs X) _
        refine x_ifN_eq (pc := 51) (t := 124) rfl rfl (by decide) (fun _ => ?_) (fun c => absurd c (by decide))
        refine x_ret (pc := 124) rfl rfl ?_
        exact kk I A (Fr_refl _ _) (Fr_refl _ _) hF h11
  | succ z ih =>
    intro j i e l x w7 I A h hz hij hR he hln hF h11 kk
    have hj : j < c := by omega
    have q8 := WS_8 hW
    have q9 := WS_128 hW
    refine x_il2 (pc := 24) rfl rfl ?_
    refine x_const (pc := 26) (pc' := 29) (.int (nI 128)) rfl rfl rfl rfl ?_
    refine x_cmpN_ge (pc := 29) (t := 124) rfl rfl (by omega) (by omega) (fun c29 => ?_) (fun c29 => ?_)
    · omega
    · refine x_al1 (pc := 32) rfl rfl ?_
      refine g_1_4 (pc := 33) rfl rfl ?_
      refine g_34_5 (pc := 36) (v := nI l.length) rfl rfl hF.1 ?_
      refine x_il2 (pc := 39) rfl rfl ?_
      refine x_cmpN_ge (pc := 41) (t := 124) rfl rfl (by omega) (by omega) (fun c41 => ?_) (fun c41 => ?_)
      · have ev : fB D s o nn (z + 1) j l x = (l, x) := by
          unfold fB
          rw [if_pos c41]
        rw [ev] at kk
        refine x_ret (pc := 124) rfl rfl ?_
        exact kk I A (Fr_refl _ _) (Fr_refl _ _) hF h11
      · refine x_al1 (pc := 44) rfl rfl ?_
        refine g_1_1 (pc := 45) rfl rfl ?_
        refine x_k (pc := 48) rfl rfl rfl ⟨Nat.le_of_ble_eq_true rfl, Nat.le_of_ble_eq_true rfl, Nat.le_of_ble_eq_true rfl⟩ rfl (rs_step (I := I) (A := A) h hs hW hj hR he (fun I1 A1 f1 g1 hR1 e7 e10 hb => ?_))
        show mq 80 51 [some (.ref 1), some (.int (nI s)), some (.int pl), some (.int o), some (.int (nI nn)), some (.ref 6), some (.int (nI i)), w7] [.int (nI 1)] (hS n u I1 A1 J B mk sn L xs X) _
        refine x_ifN_eq (pc := 51) (t := 124) rfl rfl (by decide) (fun c => absurd c (by decide)) (fun _ => ?_)
        refine x_al1 (pc := 54) rfl rfl ?_
        refine x_step (pc := 55) (pc' := 56) (st' := [.ref 1, .ref 1]) rfl rfl rfl rfl ?_
        refine g_1_11 (pc := 56) (v := x) rfl rfl ((f1 11 (by decide)).trans h11) ?_
        refine x_const (pc := 59) (pc' := 60) (.int (nI 1)) rfl rfl rfl rfl ?_
        refine x_iadd (pc := 60) rfl rfl ?_
        refine p_1_11 (pc := 61) rfl rfl ?_
        refine x_const (pc := 64) (pc' := 65) (.int (nI 0)) rfl rfl rfl rfl ?_
        refine x_is2 (pc := 65) (ml' := [some (.ref 1), some (.int (nI s)), some (.int pl), some (.int o), some (.int (nI nn)), some (.ref 6), some (.int (nI i)), some (.int (nI 0))]) rfl rfl ?_
        refine l_80r (I := va_up I1 11 (x + (nI 1))) (A := A1) (b := bB D s) (q := sb D s j) (m := bN D (sb D s j)) (WS_b hW hj).2.1 hnn (bN D (sb D s j)) 0 l (Nat.zero_add _) hb.2.2.1 hb.2.2.2 hln (FC_fr hF (Fr_cons (Fr_refl [7, 8, 9, 10, 11, 20, 21, 22] _) (Fr_u (S := [7, 8, 9, 10, 11, 20, 21, 22]) (Fr_cons (Fr_refl _ _) f1 (by decide)) (by decide)) (by decide)) g1 (by decide) (by decide) (by decide) (by decide) (by decide) (by decide)) (fun I2 A2 k2 f2 g2 hF2 => ?_)
        refine x_iincN (pc := 118) (c := 1) (ml' := [some (.ref 1), some (.int (nI s)), some (.int pl), some (.int o), some (.int (nI nn)), some (.ref 6), some (.int (nI (i + 1))), some (.int (nI k2))]) rfl rfl rfl rfl ?_
        refine x_step (pc := 121) (pc' := 24) rfl rfl rfl rfl ?_
        have ev : fB D s o nn (z + 1) j l x = fB D s o nn z (j + 1) (fR D (bB D s) (sb D s j) o nn (bN D (sb D s j)) 0 l) (x + 1) := by
          conv => lhs; unfold fB
          rw [if_neg c41]
        rw [ev] at kk
        exact ih (j + 1) (i + 1) (eN e (pb D s j)) _ (x + 1) _ (I := I2) (A := A2) (by rw [g2 0 (by decide), g1 0 (by decide)]; exact h) (by omega) (by omega) (RS_fr (RS_fr hR1 (Fr_up _ 11 (x + 1)) (by decide) (by decide) (by decide) (by decide) (by decide)) f2 (by decide) (by decide) (by decide) (by decide) (by decide)) (eN_lt he (pb_le hW (by omega))) (fR_len _ _ _ _ _ _ _ _ hln) hF2 (f2 11 (by decide)) (fun I3 A3 f3 g3 hF3 e3 => kk I3 A3 (Fr_cons (Fr_cons (Fr_u (Fr_cons (Fr_refl _ _) f1 (by decide)) (by decide)) f2 (by decide)) f3 (by decide)) (Fr_cons (Fr_cons (Fr_cons (Fr_refl _ _) g1 (by decide)) g2 (by decide)) g3 (by decide)) hF3 e3)
set_option maxRecDepth 100000 in
set_option maxHeartbeats 4000000 in
theorem k_80 (h : DK (A 0) D) {s c j nn : Nat} {o x : Int32} {l : List R5} (hs : s < 16) (hW : WS D s c) (hj : j ≤ c) (hnn : nn ≤ 8) (hln : l.length ≤ nn) (hF : FC I A l) (h11 : I 11 = x) {Q : mO × mHp → Prop} (kk : ∀ I' A', Fr [4, 5, 6, 7, 8, 9, 10, 11, 16, 20, 21, 22] I I' → Fr [5, 6, 7, 8, 9, 10, 11, 12, 13, 14] A A' → FC I' A' (fB D s o nn (c - j) j l x).1 → I' 11 = (fB D s o nn (c - j) j l x).2 → Q (.inl none, hS n u I' A' J B mk sn L xs X)) : mq 80 0 [some (.ref 1), some (.int (nI s)), some (.int (nI (pb D s j))), some (.int o), some (.int (nI nn)), none, none, none] [] (hS n u I A J B mk sn L xs X) Q := by
  refine x_al1 (pc := 0) rfl rfl ?_
  refine g_1_1 (pc := 1) rfl rfl ?_
  refine x_il1 (pc := 4) rfl rfl ?_
  refine x_il1 (pc := 5) rfl rfl ?_
  refine x_k (pc := 6) rfl rfl rfl ⟨Nat.le_of_ble_eq_true rfl, Nat.le_of_ble_eq_true rfl, Nat.le_of_ble_eq_true rfl⟩ rfl (rs_open (j := j) h hs hW hj rfl (fun I1 f1 hR => ?_))
  show mq 80 9 [some (.ref 1), some (.int (nI s)), some (.int (nI (pb D s j))), some (.int o), some (.int (nI nn)), none, none, none] [] (hS n u I1 A J B mk sn L xs X) _
  refine x_al1 (pc := 9) rfl rfl ?_
  refine g_1_1 (pc := 10) rfl rfl ?_
  refine g_4_1 (pc := 13) rfl rfl ?_
  refine g_5_0 (pc := 16) rfl rfl ?_
  refine x_as2 (pc := 19) (ml' := [some (.ref 1), some (.int (nI s)), some (.int (nI (pb D s j))), some (.int o), some (.int (nI nn)), some (.ref 6), none, none]) rfl rfl ?_
  refine x_const (pc := 21) (pc' := 22) (.int (nI 0)) rfl rfl rfl rfl ?_
  refine x_is2 (pc := 22) (ml' := [some (.ref 1), some (.int (nI s)), some (.int (nI (pb D s j))), some (.int o), some (.int (nI nn)), some (.ref 6), some (.int (nI 0)), none]) rfl rfl ?_
  exact l_80 hs hW hnn (c - j) j 0 (pb D s j) l x none h (by omega) (Nat.zero_le _) hR (by have := pb_le hW hj; omega) hln (FC_fr hF f1 (Fr_refl [] _) (by decide) (by decide) (by decide) (by decide) (by decide) (by decide)) ((f1 11 (by decide)).trans h11) (fun I2 A2 f2 g2 hF2 e2 => kk I2 A2 (Fr_cons (Fr_cons (Fr_refl _ _) f1 (by decide)) f2 (by decide)) g2 hF2 e2)
set_option maxRecDepth 100000 in
set_option maxHeartbeats 4000000 in
theorem l_79 {s c : Nat} {o : Int32} (hs : s < 16) (hW : WS D s c) {Q : mO × mHp → Prop} : ∀ (z j e r : Nat) {I : Nat → Int32} {A : Nat → Nat → Int32}, (DK (A 0) D) → (j + z = c) → (RS I D s j e) → (e < 1000) → (∀ I' A', Fr [4, 5, 6, 7, 8, 9, 10, 20, 21, 22] I I' → Fr [10, 11, 12, 13, 14] A A' → Q (.inl (some (.int (nI (pb D s (eB D s o z j e r))))), hS n u I' A' J B mk sn L xs X)) → mq 79 16 [some (.ref 1), some (.int (nI s)), some (.int o), some (.int (nI (pb D s r))), some (.int (nI j))] [] (hS n u I A J B mk sn L xs X) Q := by
  intro z
  induction z with
  | zero =>
    intro j e r I A h hz hR he kk
    have q8 := WS_8 hW
    have q9 := WS_128 hW
    refine x_il2 (pc := 16) rfl rfl ?_
    refine x_const (pc := 18) (pc' := 21) (.int (nI 128)) rfl rfl rfl rfl ?_
    refine x_cmpN_ge (pc := 21) (t := 77) rfl rfl (by omega) (by omega) (fun c21 => ?_) (fun c21 => ?_)
    · omega
    · refine x_al1 (pc := 24) rfl rfl ?_
      refine g_1_1 (pc := 25) rfl rfl ?_
      refine x_k (pc := 28) rfl rfl rfl ⟨Nat.le_of_ble_eq_true rfl, Nat.le_of_ble_eq_true rfl, Nat.le_of_ble_eq_true rfl⟩ rfl (rs_end hW (by omega) hR ?_)
      show mq 79 31 [some (.ref 1), some (.int (nI s)), some (.int o), some (.int (nI (pb D s r))), some (.int (nI j))] [.int (nI 0)] (hS n u I A J B mk sn L xs X) _
      refine x_ifN_eq (pc := 31) (t := 77) rfl rfl (by decide) (fun _ => ?_) (fun c => absurd c (by decide))
      refine x_il1 (pc := 77) rfl rfl ?_
      refine x_ret (pc := 78) rfl rfl ?_
      exact kk I A (Fr_refl _ _) (Fr_refl _ _)
  | succ z ih =>
    intro j e r I A h hz hR he kk
    have hj : j < c := by omega
    have q8 := WS_8 hW
    have q9 := WS_128 hW
    refine x_il2 (pc := 16) rfl rfl ?_
    refine x_const (pc := 18) (pc' := 21) (.int (nI 128)) rfl rfl rfl rfl ?_
    refine x_cmpN_ge (pc := 21) (t := 77) rfl rfl (by omega) (by omega) (fun c21 => ?_) (fun c21 => ?_)
    · omega
    · refine x_al1 (pc := 24) rfl rfl ?_
      refine g_1_1 (pc := 25) rfl rfl ?_
      refine x_k (pc := 28) rfl rfl rfl ⟨Nat.le_of_ble_eq_true rfl, Nat.le_of_ble_eq_true rfl, Nat.le_of_ble_eq_true rfl⟩ rfl (rs_step (I := I) (A := A) h hs hW hj hR he (fun I1 A1 f1 g1 hR1 e7 e10 hb => ?_))
      show mq 79 31 [some (.ref 1), some (.int (nI s)), some (.int o), some (.int (nI (pb D s r))), some (.int (nI j))] [.int (nI 1)] (hS n u I1 A1 J B mk sn L xs X) _
      refine x_ifN_eq (pc := 31) (t := 77) rfl rfl (by decide) (fun c => absurd c (by decide)) (fun _ => ?_)
      refine x_al1 (pc := 34) rfl rfl ?_
      refine g_1_1 (pc := 35) rfl rfl ?_
      refine g_4_8 (pc := 38) (v := nI (if e ≤ pb D s j then 1 else 0)) rfl rfl e10 ?_
      refine x_ifN_eq (pc := 41) (t := 71) rfl rfl (by split <;> omega) (fun c41 => ?_) (fun c41 => ?_)
      · have c41 : ¬ e ≤ pb D s j := fun q => absurd c41 (by rw [if_pos q]; decide)
        have ev : eB D s o (z + 1) j e r = eB D s o z (j + 1) (eN e (pb D s j)) r := by
          conv => lhs; unfold eB
          rw [if_neg (fun q => c41 q.1)]
        rw [ev] at kk
        refine x_iincN (pc := 71) (c := 1) (ml' := [some (.ref 1), some (.int (nI s)), some (.int o), some (.int (nI (pb D s r))), some (.int (nI (j + 1)))]) rfl rfl rfl rfl ?_
        refine x_step (pc := 74) (pc' := 16) rfl rfl rfl rfl ?_
        exact ih (j + 1) (eN e (pb D s j)) r (I := I1) (A := A1) (by rw [g1 0 (by decide)]; exact h) (by omega) hR1 (eN_lt he (pb_le hW (by omega))) (fun I2 A2 f2 g2 => kk I2 A2 (Fr_cons (Fr_cons (Fr_refl _ _) f1 (by decide)) f2 (by decide)) (Fr_cons g1 g2 (by decide)))
      · have c41 : e ≤ pb D s j := Classical.byContradiction fun q => c41 (if_neg q)
        refine x_al1 (pc := 44) rfl rfl ?_
        refine g_1_1 (pc := 45) rfl rfl ?_
        refine g_4_1 (pc := 48) rfl rfl ?_
        refine g_5_0 (pc := 51) rfl rfl ?_
        refine g_6_0 (pc := 54) rfl rfl ?_
        refine x_const (pc := 57) (pc' := 58) (.int (nI 0)) rfl rfl rfl rfl ?_
        refine al_7 (pc := 58) (q := 0) (v := oR D (bB D s) (sb D s j) 0) rfl rfl (by decide) ((hb.2.2.2 0 (WS_b hW hj).1).1) ?_
        refine x_il1 (pc := 59) rfl rfl ?_
        refine x_cmp_gt (pc := 60) (t := 71) rfl rfl rfl (fun c60 => ?_) (fun c60 => ?_)
        · have ev : eB D s o (z + 1) j e r = eB D s o z (j + 1) (eN e (pb D s j)) r := by
            conv => lhs; unfold eB
            rw [if_neg (fun q => absurd q.2 (Int32.not_le.mpr c60))]
          rw [ev] at kk
          refine x_iincN (pc := 71) (c := 1) (ml' := [some (.ref 1), some (.int (nI s)), some (.int o), some (.int (nI (pb D s r))), some (.int (nI (j + 1)))]) rfl rfl rfl rfl ?_
          refine x_step (pc := 74) (pc' := 16) rfl rfl rfl rfl ?_
          exact ih (j + 1) (eN e (pb D s j)) r (I := I1) (A := A1) (by rw [g1 0 (by decide)]; exact h) (by omega) hR1 (eN_lt he (pb_le hW (by omega))) (fun I2 A2 f2 g2 => kk I2 A2 (Fr_cons (Fr_cons (Fr_refl _ _) f1 (by decide)) f2 (by decide)) (Fr_cons g1 g2 (by decide)))
        · have c60 : oR D (bB D s) (sb D s j) 0 ≤ o := Int32.not_lt.mp c60
          have ev : eB D s o (z + 1) j e r = eB D s o z (j + 1) (eN e (pb D s j)) j := by
            conv => lhs; unfold eB
            rw [if_pos ⟨c41, c60⟩]
          rw [ev] at kk
          refine x_al1 (pc := 63) rfl rfl ?_
          refine g_1_1 (pc := 64) rfl rfl ?_
          refine g_4_5 (pc := 67) (v := nI (pb D s j)) rfl rfl e7 ?_
          refine x_is1 (pc := 70) (ml' := [some (.ref 1), some (.int (nI s)), some (.int o), some (.int (nI (pb D s j))), some (.int (nI j))]) rfl rfl ?_
          refine x_iincN (pc := 71) (c := 1) (ml' := [some (.ref 1), some (.int (nI s)), some (.int o), some (.int (nI (pb D s j))), some (.int (nI (j + 1)))]) rfl rfl rfl rfl ?_
          refine x_step (pc := 74) (pc' := 16) rfl rfl rfl rfl ?_
          exact ih (j + 1) (eN e (pb D s j)) j (I := I1) (A := A1) (by rw [g1 0 (by decide)]; exact h) (by omega) hR1 (eN_lt he (pb_le hW (by omega))) (fun I2 A2 f2 g2 => kk I2 A2 (Fr_cons (Fr_cons (Fr_refl _ _) f1 (by decide)) f2 (by decide)) (Fr_cons g1 g2 (by decide)))
set_option maxRecDepth 100000 in
set_option maxHeartbeats 4000000 in
theorem k_79 (h : DK (A 0) D) {s c : Nat} {o : Int32} (hs : s < 16) (hW : WS D s c) {Q : mO × mHp → Prop} (kk : ∀ I' A', Fr [4, 5, 6, 7, 8, 9, 10, 20, 21, 22] I I' → Fr [10, 11, 12, 13, 14] A A' → Q (.inl (some (.int (nI (pb D s (eB D s o c 0 8 0))))), hS n u I' A' J B mk sn L xs X)) : mq 79 0 [some (.ref 1), some (.int (nI s)), some (.int o), none, none] [] (hS n u I A J B mk sn L xs X) Q := by
  refine x_const (pc := 0) (pc' := 2) (.int (nI 8)) rfl rfl rfl rfl ?_
  refine x_is1 (pc := 2) (ml' := [some (.ref 1), some (.int (nI s)), some (.int o), some (.int (nI 8)), none]) rfl rfl ?_
  refine x_al1 (pc := 3) rfl rfl ?_
  refine g_1_1 (pc := 4) rfl rfl ?_
  refine x_il1 (pc := 7) rfl rfl ?_
  refine x_const (pc := 8) (pc' := 10) (.int (nI 8)) rfl rfl rfl rfl ?_
  refine x_k (pc := 10) rfl rfl rfl ⟨Nat.le_of_ble_eq_true rfl, Nat.le_of_ble_eq_true rfl, Nat.le_of_ble_eq_true rfl⟩ rfl (rs_open (j := 0) h hs hW (Nat.zero_le _) (pb_0 D s).symm (fun I1 f1 hR => ?_))
  show mq 79 13 [some (.ref 1), some (.int (nI s)), some (.int o), some (.int (nI 8)), none] [] (hS n u I1 A J B mk sn L xs X) _
  refine x_const (pc := 13) (pc' := 14) (.int (nI 0)) rfl rfl rfl rfl ?_
  refine x_is2 (pc := 14) (ml' := [some (.ref 1), some (.int (nI s)), some (.int o), some (.int (nI 8)), some (.int (nI 0))]) rfl rfl ?_
  have p0 := pb_0 D s
  have hl := l_79 (o := o) (Q := Q) hs hW c 0 8 0 h (Nat.zero_add _) hR (by decide) (fun I2 A2 f2 g2 => kk I2 A2 (Fr_cons (Fr_cons (Fr_refl _ _) f1 (by decide)) f2 (by decide)) g2)
  rw [p0] at hl
  exact hl
end S37
