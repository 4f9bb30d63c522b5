/-! The reader along a slot; since. -/
def pb (D : Nat → Nat) (s j : Nat) : Nat := sb D s j - 128 * s
def eN (e p : Nat) : Nat := if e ≤ p then p + 40 else e
/-- the reader stands at the j-th batch of slot s -/
def RS (I : Nat → Int32) (D : Nat → Nat) (s j e : Nat) : Prop := I 4 = nI (128 * s) ∧ I 5 = nI (bB D s) ∧ I 6 = nI (mB D s) ∧ I 8 = nI (pb D s j) ∧ I 9 = nI e - nI 40
theorem pb_in {D : Nat → Nat} {s c j : Nat} (h : WS D s c) (hj : j < c) : 128 * s + pb D s j = sb D s j ∧ 8 ≤ pb D s j ∧ pb D s j < mB D s := by
  have := WS_in h hj
  unfold pb
  omega
theorem pb_end {D : Nat → Nat} {s c : Nat} (h : WS D s c) : pb D s c = mB D s := by
  have := WS_end h
  unfold pb
  omega
theorem pb_0 (D : Nat → Nat) (s : Nat) : pb D s 0 = 8 := by
  show 128 * s + 8 - 128 * s = 8
  omega
theorem pb_le {D : Nat → Nat} {s c j : Nat} (h : WS D s c) (hj : j ≤ c) : pb D s j ≤ 128 := by
  have h1 := WS_128 h
  rcases Nat.lt_or_eq_of_le hj with q | q
  · have := pb_in h q
    omega
  · subst q
    rw [pb_end h]
    exact h1
theorem eN_lt {e p : Nat} (he : e < 1000) (hp : p ≤ 128) : eN e p < 1000 := by
  unfold eN
  split <;> omega
theorem RS_fr {S : List Nat} {I I' : Nat → Int32} {D : Nat → Nat} {s j e : Nat} (h : RS I D s j e) (f : Fr S I I') (h4 : 4 ∉ S) (h5 : 5 ∉ S) (h6 : 6 ∉ S) (h8 : 8 ∉ S) (h9 : 9 ∉ S) : RS I' D s j e := ⟨(f 4 h4).trans h.1, (f 5 h5).trans h.2.1, (f 6 h6).trans h.2.2.1, (f 8 h8).trans h.2.2.2.1, (f 9 h9).trans h.2.2.2.2⟩
section S35
variable {n u : Nat} {I : Nat → Int32} {A : Nat → Nat → Int32} {J : Int64} {B : Nat → Int64} {mk sn L : Nat} {xs : Nat → Int32} {X : Nat → mC} {D : Nat → Nat} 
set_option maxRecDepth 100000 in
set_option maxHeartbeats 4000000 in
theorem rs_open (h : DK (A 0) D) {s j : Nat} (hs : s < 16) {c : Nat} (hW : WS D s c) (hj : j ≤ c) {f : Nat} (hf : f = pb D s j) {Q : mO × mHp → Prop} (kk : ∀ I', Fr [4, 5, 6, 8, 9] I I' → RS I' D s j f → Q (.inl none, hS n u I' A J B mk sn L xs X)) : mq 36 0 [some (.ref 4), some (.int (nI s)), some (.int (nI f))] [] (hS n u I A J B mk sn L xs X) Q :=
  k_36 h hs (WS_128 hW) (fun I1 f1 e4 e5 e6 e8 e9 => kk I1 f1 ⟨e4, e5, e6, e8.trans (congrArg nI hf), e9⟩)
set_option maxRecDepth 100000 in
set_option maxHeartbeats 4000000 in
theorem rs_step (h : DK (A 0) D) {s j c e : Nat} (hs : s < 16) (hW : WS D s c) (hj : j < c) (hR : RS I D s j e) (he : e < 1000) {Q : mO × mHp → Prop} (kk : ∀ I' A', Fr [7, 8, 9, 10, 20, 21, 22] I I' → Fr [10, 11, 12, 13, 14] A A' → RS I' D s (j + 1) (eN e (pb D s j)) → I' 7 = nI (pb D s j) → I' 10 = nI (if e ≤ pb D s j then 1 else 0) → RB I' A' D (bB D s) (sb D s j) → Q (.inl (some (.int (nI 1))), hS n u I' A' J B mk sn L xs X)) : mq 39 0 [some (.ref 4), none, none, none, none, none, none] [] (hS n u I A J B mk sn L xs X) Q := by
  have q1 := pb_in hW hj
  have q2 := WS_128 hW
  refine k_39 (sp := 128 * s) (p := pb D s j) (e := e) h hR.1 hR.2.1 hR.2.2.1 hR.2.2.2.1 hR.2.2.2.2 q1.2.2 q2 (by omega) (by rw [q1.1]; exact (WS_b hW hj).2.1) (by omega) (fun I1 A1 f1 g1 e7 e8 e9 e10 hb => ?_)
  rw [q1.1] at hb e8
  have q3 : pb D s j + 1 + D (sb D s j) = pb D s (j + 1) := by
    have : sb D s (j + 1) = sb D s j + 1 + D (sb D s j) := rfl
    unfold pb at *
    omega
  exact kk I1 A1 f1 g1 ⟨(f1 4 (by decide)).trans hR.1, (f1 5 (by decide)).trans hR.2.1, (f1 6 (by decide)).trans hR.2.2.1, e8.trans (congrArg nI q3), e9⟩ e7 e10 hb
set_option maxRecDepth 100000 in
set_option maxHeartbeats 4000000 in
theorem rs_end {s j c e : Nat} (hW : WS D s c) (hj : j = c) (hR : RS I D s j e) {Q : mO × mHp → Prop} (kk : Q (.inl (some (.int (nI 0))), hS n u I A J B mk sn L xs X)) : mq 39 0 [some (.ref 4), none, none, none, none, none, none] [] (hS n u I A J B mk sn L xs X) Q := by
  subst hj
  have q1 := pb_end hW
  have q2 := WS_128 hW
  exact k_39f hR.2.2.1 hR.2.2.2.1 (by omega) (by omega) kk
end S35
/-- the first record of a batch, of a slot, of a log whose time is t or later: its offset -/
def sR (D : Nat → Nat) (b q : Nat) (t : Int32) : Nat → Nat → Option Int32
  | 0, _ => none
  | z + 1, k => if tR D q k < t then sR D b q t z (k + 1) else some (oR D b q k)
def sB (D : Nat → Nat) (s : Nat) (t : Int32) : Nat → Nat → Option Int32
  | 0, _ => none
  | z + 1, j => match sR D (bB D s) (sb D s j) t (bN D (sb D s j)) 0 with
    | some v => some v
    | none => sB D s t z (j + 1)
def sL (D : Nat → Nat) (f bc : Nat → Nat) (t : Int32) : Nat → Nat → Option Int32
  | 0, _ => none
  | z + 1, i => match sB D (f i) t (bc (f i)) 0 with
    | some v => some v
    | none => sL D f bc t z (i + 1)
section S35
variable {n u : Nat} {I : Nat → Int32} {A : Nat → Nat → Int32} {J : Int64} {B : Nat → Int64} {mk sn L : Nat} {xs : Nat → Int32} {X : Nat → mC} {D : Nat → Nat}
set_option maxRecDepth 100000 in
set_option maxHeartbeats 4000000 in
theorem l_86r {s j b q m : Nat} {t : Int32} (hm : m ≤ 4) (hj : j < 200) (h22 : I 22 = nI m) (hr : RBn A D b q m) {Q : mO × mHp → Prop} : ∀ (z k : Nat), k + z = m → (∀ v, sR D b q t z k = some v → Q (.inl (some (.int v)), hS n u I A J B mk sn L xs X)) → (sR D b q t z k = none → mq 86 79 [some (.ref 1), some (.int (nI s)), some (.int t), some (.ref 6), some (.int (nI j)), some (.int (nI m))] [] (hS n u I A J B mk sn L xs X) Q) → mq 86 45 [some (.ref 1), some (.int (nI s)), some (.int t), some (.ref 6), some (.int (nI j)), some (.int (nI k))] [] (hS n u I A J B mk sn L xs X) Q := by
  intro z
  induction z with
  | zero =>
    intro k hz k1 k2
    refine x_il2 (pc := 45) rfl rfl ?_
    refine x_al1 (pc := 47) rfl rfl ?_
    refine g_6_5 (pc := 48) (v := nI m) rfl rfl h22 ?_
    refine x_cmpN_ge (pc := 51) (t := 79) rfl rfl (by omega) (by omega) (fun c51 => ?_) (fun c51 => ?_)
    · have hk : k = m := by omega
      subst hk
      exact k2 rfl
    · omega
  | succ z ih =>
    intro k hz k1 k2
    refine x_il2 (pc := 45) rfl rfl ?_
    refine x_al1 (pc := 47) rfl rfl ?_
    refine g_6_5 (pc := 48) (v := nI m) rfl rfl h22 ?_
    refine x_cmpN_ge (pc := 51) (t := 79) rfl rfl (by omega) (by omega) (fun c51 => ?_) (fun c51 => ?_)
    · omega
    · refine x_al1 (pc := 54) rfl rfl ?_
      refine g_6_1 (pc := 55) rfl rfl ?_
      refine x_il2 (pc := 58) rfl rfl ?_
      refine al_8 (pc := 60) (q := k) (v := tR D q k) rfl rfl (by omega) ((hr k (by omega)).2.1) ?_
      refine x_il1 (pc := 61) rfl rfl ?_
      refine x_cmp_lt (pc := 62) (t := 73) rfl rfl rfl (fun c62 => ?_) (fun c62 => ?_)
      · refine x_iincN (pc := 73) (c := 1) (ml' := [some (.ref 1), some (.int (nI s)), some (.int t), some (.ref 6), some (.int (nI j)), some (.int (nI (k + 1)))]) rfl rfl rfl rfl ?_
        refine x_step (pc := 76) (pc' := 45) rfl rfl rfl rfl ?_
        have e : sR D b q t (z + 1) k = sR D b q t z (k + 1) := if_pos c62
        rw [e] at k1 k2
        exact ih (k + 1) (by omega) k1 k2
      · refine x_al1 (pc := 65) rfl rfl ?_
        refine g_6_0 (pc := 66) rfl rfl ?_
        refine x_il2 (pc := 69) rfl rfl ?_
        refine al_7 (pc := 71) (q := k) (v := oR D b q k) rfl rfl (by omega) ((hr k (by omega)).1) ?_
        refine x_ret (pc := 72) rfl rfl ?_
        exact k1 _ (by unfold sR; rw [if_neg c62])
set_option maxRecDepth 100000 in
set_option maxHeartbeats 4000000 in
theorem l_86 {s c : Nat} {t : Int32} (hs : s < 16) (hW : WS D s c) {Q : mO × mHp → Prop} : ∀ (z j e : Nat) (w5 : Option Value) {I : Nat → Int32} {A : Nat → Nat → Int32}, (DK (A 0) D) → (j + z = c) → (RS I D s j e) → (e < 1000) → (∀ I' A', Fr [4, 5, 6, 7, 8, 9, 10, 20, 21, 22] I I' → Fr [10, 11, 12, 13, 14] A A' → Q (.inl (some (.int ((sB D s t z j).getD (-1)))), hS n u I' A' J B mk sn L xs X)) → mq 86 24 [some (.ref 1), some (.int (nI s)), some (.int t), some (.ref 6), some (.int (nI j)), w5] [] (hS n u I A J B mk sn L xs X) Q := by
  intro z
  induction z with
  | zero =>
    intro j e w5 I A h hz hR he kk
    have q8 := WS_8 hW
    have q9 := WS_128 hW
    refine x_il2 (pc := 24) rfl rfl ?_
    refine x_const (pc := 26) (pc' := 29) (.int (nI 128)) rfl rfl rfl rfl ?_
    refine x_cmpN_ge (pc := 29) (t := 85) rfl rfl (by omega) (by omega) (fun c29 => ?_) (fun c29 => ?_)
    · omega
    · refine x_al1 (pc := 32) rfl rfl ?_
      refine g_1_1 (pc := 33) rfl rfl ?_
      refine x_k (pc := 36) rfl rfl rfl ⟨Nat.le_of_ble_eq_true rfl, Nat.le_of_ble_eq_true rfl, Nat.le_of_ble_eq_true rfl⟩ rfl (rs_end hW (by omega) hR ?_)
      show mq 86 39 [some (.ref 1), some (.int (nI s)), some (.int t), some (.ref 6), some (.int (nI j)), w5] [.int (nI 0)] (hS n u I A J B mk sn L xs X) _
      refine x_ifN_eq (pc := 39) (t := 85) rfl rfl (by decide) (fun _ => ?_) (fun c => absurd c (by decide))
      refine x_const (pc := 85) (pc' := 86) (.int (-1)) rfl rfl rfl rfl ?_
      refine x_ret (pc := 86) rfl rfl ?_
      exact kk I A (Fr_refl _ _) (Fr_refl _ _)
  | succ z ih =>
    intro j e w5 I A h hz hR he kk
    have hj : j < c := by omega
    have q8 := WS_8 hW
    have q9 := WS_128 hW
    refine x_il2 (pc := 24) rfl rfl ?_
    refine x_const (pc := 26) (pc' := 29) (.int (nI 128)) rfl rfl rfl rfl ?_
    refine x_cmpN_ge (pc := 29) (t := 85) rfl rfl (by omega) (by omega) (fun c29 => ?_) (fun c29 => ?_)
    · omega
    · refine x_al1 (pc := 32) rfl rfl ?_
      refine g_1_1 (pc := 33) rfl rfl ?_
      refine x_k (pc := 36) rfl rfl rfl ⟨Nat.le_of_ble_eq_true rfl, Nat.le_of_ble_eq_true rfl, Nat.le_of_ble_eq_true rfl⟩ rfl (rs_step (I := I) (A := A) h hs hW hj hR he (fun I1 A1 f1 g1 hR1 e7 e10 hb => ?_))
      show mq 86 39 [some (.ref 1), some (.int (nI s)), some (.int t), some (.ref 6), some (.int (nI j)), w5] [.int (nI 1)] (hS n u I1 A1 J B mk sn L xs X) _
      refine x_ifN_eq (pc := 39) (t := 85) rfl rfl (by decide) (fun c => absurd c (by decide)) (fun _ => ?_)
      refine x_const (pc := 42) (pc' := 43) (.int (nI 0)) rfl rfl rfl rfl ?_
      refine x_is2 (pc := 43) (ml' := [some (.ref 1), some (.int (nI s)), some (.int t), some (.ref 6), some (.int (nI j)), some (.int (nI 0))]) rfl rfl ?_
      refine l_86r (A := A1) (b := bB D s) (q := sb D s j) (m := bN D (sb D s j)) (WS_b hW hj).2.1 (by omega) hb.2.2.1 hb.2.2.2 (bN D (sb D s j)) 0 (Nat.zero_add _) (fun v hv => ?_) (fun hv => ?_)
      · have e : sB D s t (z + 1) j = some v := by unfold sB; rw [hv]
        rw [e] at kk
        exact kk I1 A1 (Fr_cons (Fr_refl _ _) f1 (by decide)) g1
      · have ev : sB D s t (z + 1) j = sB D s t z (j + 1) := by
          conv => lhs; unfold sB
          rw [hv]
        rw [ev] at kk
        refine x_iincN (pc := 79) (c := 1) (ml' := [some (.ref 1), some (.int (nI s)), some (.int t), some (.ref 6), some (.int (nI (j + 1))), some (.int (nI (bN D (sb D s j))))]) rfl rfl rfl rfl ?_
        refine x_step (pc := 82) (pc' := 24) rfl rfl rfl rfl ?_
        exact ih (j + 1) (eN e (pb D s j)) _ (I := I1) (A := A1) (by rw [g1 0 (by decide)]; exact h) (by omega) hR1 (eN_lt he (pb_le hW (by omega))) (fun I2 A2 f2 g2 => kk I2 A2 (Fr_cons (Fr_cons (Fr_refl _ _) f1 (by decide)) f2 (by decide)) (Fr_cons g1 g2 (by decide)))
set_option maxRecDepth 100000 in
set_option maxHeartbeats 4000000 in
theorem k_86 (h : DK (A 0) D) {s c : Nat} {t : Int32} (hs : s < 16) (hW : WS D s c) {Q : mO × mHp → Prop} (kk : ∀ I' A', Fr [4, 5, 6, 7, 8, 9, 10, 20, 21, 22] I I' → Fr [10, 11, 12, 13, 14] A A' → Q (.inl (some (.int ((sB D s t c 0).getD (-1)))), hS n u I' A' J B mk sn L xs X)) : mq 86 0 [some (.ref 1), some (.int (nI s)), some (.int t), none, none, none] [] (hS n u I A J B mk sn L xs X) Q := by
  refine x_al1 (pc := 0) rfl rfl ?_
  refine g_1_1 (pc := 1) rfl rfl ?_
  refine x_il1 (pc := 4) rfl rfl ?_
  refine x_const (pc := 5) (pc' := 7) (.int (nI 8)) rfl rfl rfl rfl ?_
  refine x_k (pc := 7) rfl rfl rfl ⟨Nat.le_of_ble_eq_true rfl, Nat.le_of_ble_eq_true rfl, Nat.le_of_ble_eq_true rfl⟩ rfl (rs_open (j := 0) h hs hW (Nat.zero_le _) (pb_0 D s).symm (fun I1 f1 hR => ?_))
  show mq 86 10 [some (.ref 1), some (.int (nI s)), some (.int t), none, none, none] [] (hS n u I1 A J B mk sn L xs X) _
  refine x_al1 (pc := 10) rfl rfl ?_
  refine g_1_1 (pc := 11) rfl rfl ?_
  refine g_4_1 (pc := 14) rfl rfl ?_
  refine g_5_0 (pc := 17) rfl rfl ?_
  refine x_as1 (pc := 20) (ml' := [some (.ref 1), some (.int (nI s)), some (.int t), some (.ref 6), none, none]) rfl rfl ?_
  refine x_const (pc := 21) (pc' := 22) (.int (nI 0)) rfl rfl rfl rfl ?_
  refine x_is2 (pc := 22) (ml' := [some (.ref 1), some (.int (nI s)), some (.int t), some (.ref 6), some (.int (nI 0)), none]) rfl rfl ?_
  exact l_86 hs hW c 0 8 none h (Nat.zero_add _) hR (by decide) (fun I2 A2 f2 g2 => kk I2 A2 (Fr_cons (Fr_cons (Fr_refl _ _) f1 (by decide)) f2 (by decide)) g2)
set_option maxRecDepth 100000 in
set_option maxHeartbeats 4000000 in
theorem l_85_0 {cn : Nat} {f bc : Nat → Nat} {t : Int32} (hcn : cn ≤ 16) (hf : ∀ k, k < cn → f k < 16 ∧ WS D (f k) (bc (f k))) (hpos : ∀ k, k < cn → ∀ v, sB D (f k) t (bc (f k)) 0 = some v → ¬ v < 0) {Q : mO × mHp → Prop} : ∀ (z k : Nat) (w4 : Option Value) {I : Nat → Int32} {A : Nat → Nat → Int32}, (DK (A 0) D) → (k + z = cn) → (I 40 = nI cn) → (∀ j, j < cn → A 30 j = nI (f j)) → (∀ I' A', Fr [4, 5, 6, 7, 8, 9, 10, 20, 21, 22] I I' → Fr [10, 11, 12, 13, 14] A A' → Q (.inl (some (.int ((sL D f bc t z k).getD (-1)))), hS n u I' A' J B mk sn L xs X)) → mq 85 23 [some (.ref 1), some (.int (nI 0)), some (.int t), some (.int (nI k)), w4] [] (hS n u I A J B mk sn L xs X) Q := by
  intro z
  induction z with
  | zero =>
    intro k w4 I A h hz hc hsl kk
    refine x_il1 (pc := 23) rfl rfl ?_
    refine x_al1 (pc := 24) rfl rfl ?_
    refine g_1_2 (pc := 25) rfl rfl ?_
    refine x_il1 (pc := 28) rfl rfl ?_
    refine aal (pc := 29) (q := 0) (a := 13) rfl rfl (by decide) rfl ?_
    refine g_13_5 (pc := 30) (v := nI cn) rfl rfl hc ?_
    refine x_cmpN_ge (pc := 33) (t := 68) rfl rfl (by omega) (by omega) (fun c33 => ?_) (fun c33 => ?_)
    · refine x_const (pc := 68) (pc' := 69) (.int (-1)) rfl rfl rfl rfl ?_
      refine x_ret (pc := 69) rfl rfl ?_
      exact kk I A (Fr_refl _ _) (Fr_refl _ _)
    · omega
  | succ z ih =>
    intro k w4 I A h hz hc hsl kk
    refine x_il1 (pc := 23) rfl rfl ?_
    refine x_al1 (pc := 24) rfl rfl ?_
    refine g_1_2 (pc := 25) rfl rfl ?_
    refine x_il1 (pc := 28) rfl rfl ?_
    refine aal (pc := 29) (q := 0) (a := 13) rfl rfl (by decide) rfl ?_
    refine g_13_5 (pc := 30) (v := nI cn) rfl rfl hc ?_
    refine x_cmpN_ge (pc := 33) (t := 68) rfl rfl (by omega) (by omega) (fun c33 => ?_) (fun c33 => ?_)
    · omega
    · refine x_al1 (pc := 36) rfl rfl ?_
      refine x_al1 (pc := 37) rfl rfl ?_
      refine g_1_2 (pc := 38) rfl rfl ?_
      refine x_il1 (pc := 41) rfl rfl ?_
      refine aal (pc := 42) (q := 0) (a := 13) rfl rfl (by decide) rfl ?_
      refine g_13_1 (pc := 43) rfl rfl ?_
      refine x_il1 (pc := 46) rfl rfl ?_
      refine al_14 (pc := 47) (q := k) (v := nI (f k)) rfl rfl (by omega) (hsl k (by omega)) ?_
      refine x_il1 (pc := 48) rfl rfl ?_
      refine x_k (pc := 49) rfl rfl rfl ⟨Nat.le_of_ble_eq_true rfl, Nat.le_of_ble_eq_true rfl, Nat.le_of_ble_eq_true rfl⟩ rfl (k_86 (t := t) h (hf k (by omega)).1 (hf k (by omega)).2 (fun I1 A1 f1 g1 => ?_))
      show mq 85 52 [some (.ref 1), some (.int (nI 0)), some (.int t), some (.int (nI k)), w4] [.int ((sB D (f k) t (bc (f k)) 0).getD (-1))] (hS n u I1 A1 J B mk sn L xs X) _
      refine x_is2 (pc := 52) (ml' := [some (.ref 1), some (.int (nI 0)), some (.int t), some (.int (nI k)), some (.int ((sB D (f k) t (bc (f k)) 0).getD (-1)))]) rfl rfl ?_
      refine x_il2 (pc := 54) rfl rfl ?_
      refine x_if_lt (pc := 56) (t := 62) rfl rfl rfl (fun c56 => ?_) (fun c56 => ?_)
      · refine x_iincN (pc := 62) (c := 1) (ml' := [some (.ref 1), some (.int (nI 0)), some (.int t), some (.int (nI (k + 1))), some (.int ((sB D (f k) t (bc (f k)) 0).getD (-1)))]) rfl rfl rfl rfl ?_
        refine x_step (pc := 65) (pc' := 23) rfl rfl rfl rfl ?_
        have ev : sL D f bc t (z + 1) k = sL D f bc t z (k + 1) := by
          cases hv : sB D (f k) t (bc (f k)) 0 with
          | none =>
            conv => lhs; unfold sL
            rw [hv]
          | some v => exact absurd (by rw [hv] at c56; exact c56) (hpos k (by omega) v hv)
        rw [ev] at kk
        exact ih (k + 1) _ (I := I1) (A := A1) (by rw [g1 0 (by decide)]; exact h) (by omega) ((f1 40 (by decide)).trans hc) (fun j hj => by rw [g1 30 (by decide)]; exact hsl j hj) (fun I2 A2 f2 g2 => kk I2 A2 (Fr_cons (Fr_cons (Fr_refl _ _) f1 (by decide)) f2 (by decide)) (Fr_cons (Fr_cons (Fr_refl _ _) g1 (by decide)) g2 (by decide)))
      · refine x_il2 (pc := 59) rfl rfl ?_
        refine x_ret (pc := 61) rfl rfl ?_
        cases hv : sB D (f k) t (bc (f k)) 0 with
        | none => exact absurd (by rw [hv]; decide) c56
        | some v =>
          have ev : sL D f bc t (z + 1) k = some v := by unfold sL; rw [hv]
          rw [ev] at kk
          exact kk I1 A1 (Fr_cons (Fr_refl _ _) f1 (by decide)) (Fr_cons (Fr_refl _ _) g1 (by decide))
set_option maxRecDepth 100000 in
set_option maxHeartbeats 4000000 in
theorem k_85_0 (h : DK (A 0) D) {cn : Nat} {f bc : Nat → Nat} {t : Int32} (hcn : cn ≤ 16) (hf : ∀ k, k < cn → f k < 16 ∧ WS D (f k) (bc (f k))) (hpos : ∀ k, k < cn → ∀ v, sB D (f k) t (bc (f k)) 0 = some v → ¬ v < 0) (h0 : I 0 = nI 1) (hc : I 40 = nI cn) (hsl : ∀ j, j < cn → A 30 j = nI (f j)) {Q : mO × mHp → Prop} (kk : ∀ I' A', Fr [4, 5, 6, 7, 8, 9, 10, 20, 21, 22] I I' → Fr [10, 11, 12, 13, 14] A A' → Q (.inl (some (.int ((sL D f bc t cn 0).getD (-1)))), hS n u I' A' J B mk sn L xs X)) : mq 85 0 [some (.ref 1), some (.int (nI 0)), some (.int t), none, none] [] (hS n u I A J B mk sn L xs X) Q := by
  refine x_al1 (pc := 0) rfl rfl ?_
  refine x_k (pc := 1) rfl rfl rfl ⟨Nat.le_of_ble_eq_true rfl, Nat.le_of_ble_eq_true rfl, Nat.le_of_ble_eq_true rfl⟩ rfl (k_60 h0 ?_)
  show mq 85 4 [some (.ref 1), some (.int (nI 0)), some (.int t), none, none] [] (hS n u I A J B mk sn L xs X) _
  refine x_il1 (pc := 4) rfl rfl ?_
  refine x_k (pc := 5) rfl rfl rfl ⟨Nat.le_of_ble_eq_true rfl, Nat.le_of_ble_eq_true rfl, Nat.le_of_ble_eq_true rfl⟩ rfl (k_48 (by decide) ?_)
  show mq 85 8 [some (.ref 1), some (.int (nI 0)), some (.int t), none, none] [.int (nI 1)] (hS n u I A J B mk sn L xs X) _
  refine x_ifN_ne (pc := 8) (t := 21) rfl rfl (by decide) (fun _ => ?_) (fun c => absurd c (by decide))
  refine x_const (pc := 21) (pc' := 22) (.int (nI 0)) rfl rfl rfl rfl ?_
  refine x_is1 (pc := 22) (ml' := [some (.ref 1), some (.int (nI 0)), some (.int t), some (.int (nI 0)), none]) rfl rfl ?_
  exact l_85_0 hcn hf hpos cn 0 none h (Nat.zero_add _) hc hsl kk
set_option maxRecDepth 100000 in
set_option maxHeartbeats 4000000 in
theorem l_85_1 {cn : Nat} {f bc : Nat → Nat} {t : Int32} (hcn : cn ≤ 16) (hf : ∀ k, k < cn → f k < 16 ∧ WS D (f k) (bc (f k))) (hpos : ∀ k, k < cn → ∀ v, sB D (f k) t (bc (f k)) 0 = some v → ¬ v < 0) {Q : mO × mHp → Prop} : ∀ (z k : Nat) (w4 : Option Value) {I : Nat → Int32} {A : Nat → Nat → Int32}, (DK (A 0) D) → (k + z = cn) → (I 43 = nI cn) → (∀ j, j < cn → A 34 j = nI (f j)) → (∀ I' A', Fr [4, 5, 6, 7, 8, 9, 10, 20, 21, 22] I I' → Fr [10, 11, 12, 13, 14] A A' → Q (.inl (some (.int ((sL D f bc t z k).getD (-1)))), hS n u I' A' J B mk sn L xs X)) → mq 85 23 [some (.ref 1), some (.int (nI 1)), some (.int t), some (.int (nI k)), w4] [] (hS n u I A J B mk sn L xs X) Q := by
  intro z
  induction z with
  | zero =>
    intro k w4 I A h hz hc hsl kk
    refine x_il1 (pc := 23) rfl rfl ?_
    refine x_al1 (pc := 24) rfl rfl ?_
    refine g_1_2 (pc := 25) rfl rfl ?_
    refine x_il1 (pc := 28) rfl rfl ?_
    refine aal (pc := 29) (q := 1) (a := 18) rfl rfl (by decide) rfl ?_
    refine g_18_5 (pc := 30) (v := nI cn) rfl rfl hc ?_
    refine x_cmpN_ge (pc := 33) (t := 68) rfl rfl (by omega) (by omega) (fun c33 => ?_) (fun c33 => ?_)
    · refine x_const (pc := 68) (pc' := 69) (.int (-1)) rfl rfl rfl rfl ?_
      refine x_ret (pc := 69) rfl rfl ?_
      exact kk I A (Fr_refl _ _) (Fr_refl _ _)
    · omega
  | succ z ih =>
    intro k w4 I A h hz hc hsl kk
    refine x_il1 (pc := 23) rfl rfl ?_
    refine x_al1 (pc := 24) rfl rfl ?_
    refine g_1_2 (pc := 25) rfl rfl ?_
    refine x_il1 (pc := 28) rfl rfl ?_
    refine aal (pc := 29) (q := 1) (a := 18) rfl rfl (by decide) rfl ?_
    refine g_18_5 (pc := 30) (v := nI cn) rfl rfl hc ?_
    refine x_cmpN_ge (pc := 33) (t := 68) rfl rfl (by omega) (by omega) (fun c33 => ?_) (fun c33 => ?_)
    · omega
    · refine x_al1 (pc := 36) rfl rfl ?_
      refine x_al1 (pc := 37) rfl rfl ?_
      refine g_1_2 (pc := 38) rfl rfl ?_
      refine x_il1 (pc := 41) rfl rfl ?_
      refine aal (pc := 42) (q := 1) (a := 18) rfl rfl (by decide) rfl ?_
      refine g_18_1 (pc := 43) rfl rfl ?_
      refine x_il1 (pc := 46) rfl rfl ?_
      refine al_19 (pc := 47) (q := k) (v := nI (f k)) rfl rfl (by omega) (hsl k (by omega)) ?_
      refine x_il1 (pc := 48) rfl rfl ?_
      refine x_k (pc := 49) rfl rfl rfl ⟨Nat.le_of_ble_eq_true rfl, Nat.le_of_ble_eq_true rfl, Nat.le_of_ble_eq_true rfl⟩ rfl (k_86 (t := t) h (hf k (by omega)).1 (hf k (by omega)).2 (fun I1 A1 f1 g1 => ?_))
      show mq 85 52 [some (.ref 1), some (.int (nI 1)), some (.int t), some (.int (nI k)), w4] [.int ((sB D (f k) t (bc (f k)) 0).getD (-1))] (hS n u I1 A1 J B mk sn L xs X) _
      refine x_is2 (pc := 52) (ml' := [some (.ref 1), some (.int (nI 1)), some (.int t), some (.int (nI k)), some (.int ((sB D (f k) t (bc (f k)) 0).getD (-1)))]) rfl rfl ?_
      refine x_il2 (pc := 54) rfl rfl ?_
      refine x_if_lt (pc := 56) (t := 62) rfl rfl rfl (fun c56 => ?_) (fun c56 => ?_)
      · refine x_iincN (pc := 62) (c := 1) (ml' := [some (.ref 1), some (.int (nI 1)), some (.int t), some (.int (nI (k + 1))), some (.int ((sB D (f k) t (bc (f k)) 0).getD (-1)))]) rfl rfl rfl rfl ?_
        refine x_step (pc := 65) (pc' := 23) rfl rfl rfl rfl ?_
        have ev : sL D f bc t (z + 1) k = sL D f bc t z (k + 1) := by
          cases hv : sB D (f k) t (bc (f k)) 0 with
          | none =>
            conv => lhs; unfold sL
            rw [hv]
          | some v => exact absurd (by rw [hv] at c56; exact c56) (hpos k (by omega) v hv)
        rw [ev] at kk
        exact ih (k + 1) _ (I := I1) (A := A1) (by rw [g1 0 (by decide)]; exact h) (by omega) ((f1 43 (by decide)).trans hc) (fun j hj => by rw [g1 34 (by decide)]; exact hsl j hj) (fun I2 A2 f2 g2 => kk I2 A2 (Fr_cons (Fr_cons (Fr_refl _ _) f1 (by decide)) f2 (by decide)) (Fr_cons (Fr_cons (Fr_refl _ _) g1 (by decide)) g2 (by decide)))
      · refine x_il2 (pc := 59) rfl rfl ?_
        refine x_ret (pc := 61) rfl rfl ?_
        cases hv : sB D (f k) t (bc (f k)) 0 with
        | none => exact absurd (by rw [hv]; decide) c56
        | some v =>
          have ev : sL D f bc t (z + 1) k = some v := by unfold sL; rw [hv]
          rw [ev] at kk
          exact kk I1 A1 (Fr_cons (Fr_refl _ _) f1 (by decide)) (Fr_cons (Fr_refl _ _) g1 (by decide))
set_option maxRecDepth 100000 in
set_option maxHeartbeats 4000000 in
theorem k_85_1 (h : DK (A 0) D) {cn : Nat} {f bc : Nat → Nat} {t : Int32} (hcn : cn ≤ 16) (hf : ∀ k, k < cn → f k < 16 ∧ WS D (f k) (bc (f k))) (hpos : ∀ k, k < cn → ∀ v, sB D (f k) t (bc (f k)) 0 = some v → ¬ v < 0) (h0 : I 0 = nI 1) (hc : I 43 = nI cn) (hsl : ∀ j, j < cn → A 34 j = nI (f j)) {Q : mO × mHp → Prop} (kk : ∀ I' A', Fr [4, 5, 6, 7, 8, 9, 10, 20, 21, 22] I I' → Fr [10, 11, 12, 13, 14] A A' → Q (.inl (some (.int ((sL D f bc t cn 0).getD (-1)))), hS n u I' A' J B mk sn L xs X)) : mq 85 0 [some (.ref 1), some (.int (nI 1)), some (.int t), none, none] [] (hS n u I A J B mk sn L xs X) Q := by
  refine x_al1 (pc := 0) rfl rfl ?_
  refine x_k (pc := 1) rfl rfl rfl ⟨Nat.le_of_ble_eq_true rfl, Nat.le_of_ble_eq_true rfl, Nat.le_of_ble_eq_true rfl⟩ rfl (k_60 h0 ?_)
  show mq 85 4 [some (.ref 1), some (.int (nI 1)), some (.int t), none, none] [] (hS n u I A J B mk sn L xs X) _
  refine x_il1 (pc := 4) rfl rfl ?_
  refine x_k (pc := 5) rfl rfl rfl ⟨Nat.le_of_ble_eq_true rfl, Nat.le_of_ble_eq_true rfl, Nat.le_of_ble_eq_true rfl⟩ rfl (k_48 (by decide) ?_)
  show mq 85 8 [some (.ref 1), some (.int (nI 1)), some (.int t), none, none] [.int (nI 1)] (hS n u I A J B mk sn L xs X) _
  refine x_ifN_ne (pc := 8) (t := 21) rfl rfl (by decide) (fun _ => ?_) (fun c => absurd c (by decide))
  refine x_const (pc := 21) (pc' := 22) (.int (nI 0)) rfl rfl rfl rfl ?_
  refine x_is1 (pc := 22) (ml' := [some (.ref 1), some (.int (nI 1)), some (.int t), some (.int (nI 0)), none]) rfl rfl ?_
  exact l_85_1 hcn hf hpos cn 0 none h (Nat.zero_add _) hc hsl kk
set_option maxRecDepth 100000 in
set_option maxHeartbeats 4000000 in
theorem l_85_2 {cn : Nat} {f bc : Nat → Nat} {t : Int32} (hcn : cn ≤ 16) (hf : ∀ k, k < cn → f k < 16 ∧ WS D (f k) (bc (f k))) (hpos : ∀ k, k < cn → ∀ v, sB D (f k) t (bc (f k)) 0 = some v → ¬ v < 0) {Q : mO × mHp → Prop} : ∀ (z k : Nat) (w4 : Option Value) {I : Nat → Int32} {A : Nat → Nat → Int32}, (DK (A 0) D) → (k + z = cn) → (I 46 = nI cn) → (∀ j, j < cn → A 38 j = nI (f j)) → (∀ I' A', Fr [4, 5, 6, 7, 8, 9, 10, 20, 21, 22] I I' → Fr [10, 11, 12, 13, 14] A A' → Q (.inl (some (.int ((sL D f bc t z k).getD (-1)))), hS n u I' A' J B mk sn L xs X)) → mq 85 23 [some (.ref 1), some (.int (nI 2)), some (.int t), some (.int (nI k)), w4] [] (hS n u I A J B mk sn L xs X) Q := by
  intro z
  induction z with
  | zero =>
    intro k w4 I A h hz hc hsl kk
    refine x_il1 (pc := 23) rfl rfl ?_
    refine x_al1 (pc := 24) rfl rfl ?_
    refine g_1_2 (pc := 25) rfl rfl ?_
    refine x_il1 (pc := 28) rfl rfl ?_
    refine aal (pc := 29) (q := 2) (a := 23) rfl rfl (by decide) rfl ?_
    refine g_23_5 (pc := 30) (v := nI cn) rfl rfl hc ?_
    refine x_cmpN_ge (pc := 33) (t := 68) rfl rfl (by omega) (by omega) (fun c33 => ?_) (fun c33 => ?_)
    · refine x_const (pc := 68) (pc' := 69) (.int (-1)) rfl rfl rfl rfl ?_
      refine x_ret (pc := 69) rfl rfl ?_
      exact kk I A (Fr_refl _ _) (Fr_refl _ _)
    · omega
  | succ z ih =>
    intro k w4 I A h hz hc hsl kk
    refine x_il1 (pc := 23) rfl rfl ?_
    refine x_al1 (pc := 24) rfl rfl ?_
    refine g_1_2 (pc := 25) rfl rfl ?_
    refine x_il1 (pc := 28) rfl rfl ?_
    refine aal (pc := 29) (q := 2) (a := 23) rfl rfl (by decide) rfl ?_
    refine g_23_5 (pc := 30) (v := nI cn) rfl rfl hc ?_
    refine x_cmpN_ge (pc := 33) (t := 68) rfl rfl (by omega) (by omega) (fun c33 => ?_) (fun c33 => ?_)
    · omega
    · refine x_al1 (pc := 36) rfl rfl ?_
      refine x_al1 (pc := 37) rfl rfl ?_
      refine g_1_2 (pc := 38) rfl rfl ?_
      refine x_il1 (pc := 41) rfl rfl ?_
      refine aal (pc := 42) (q := 2) (a := 23) rfl rfl (by decide) rfl ?_
      refine g_23_1 (pc := 43) rfl rfl ?_
      refine x_il1 (pc := 46) rfl rfl ?_
      refine al_24 (pc := 47) (q := k) (v := nI (f k)) rfl rfl (by omega) (hsl k (by omega)) ?_
      refine x_il1 (pc := 48) rfl rfl ?_
      refine x_k (pc := 49) rfl rfl rfl ⟨Nat.le_of_ble_eq_true rfl, Nat.le_of_ble_eq_true rfl, Nat.le_of_ble_eq_true rfl⟩ rfl (k_86 (t := t) h (hf k (by omega)).1 (hf k (by omega)).2 (fun I1 A1 f1 g1 => ?_))
      show mq 85 52 [some (.ref 1), some (.int (nI 2)), some (.int t), some (.int (nI k)), w4] [.int ((sB D (f k) t (bc (f k)) 0).getD (-1))] (hS n u I1 A1 J B mk sn L xs X) _
      refine x_is2 (pc := 52) (ml' := [some (.ref 1), some (.int (nI 2)), some (.int t), some (.int (nI k)), some (.int ((sB D (f k) t (bc (f k)) 0).getD (-1)))]) rfl rfl ?_
      refine x_il2 (pc := 54) rfl rfl ?_
      refine x_if_lt (pc := 56) (t := 62) rfl rfl rfl (fun c56 => ?_) (fun c56 => ?_)
      · refine x_iincN (pc := 62) (c := 1) (ml' := [some (.ref 1), some (.int (nI 2)), some (.int t), some (.int (nI (k + 1))), some (.int ((sB D (f k) t (bc (f k)) 0).getD (-1)))]) rfl rfl rfl rfl ?_
        refine x_step (pc := 65) (pc' := 23) rfl rfl rfl rfl ?_
        have ev : sL D f bc t (z + 1) k = sL D f bc t z (k + 1) := by
          cases hv : sB D (f k) t (bc (f k)) 0 with
          | none =>
            conv => lhs; unfold sL
            rw [hv]
          | some v => exact absurd (by rw [hv] at c56; exact c56) (hpos k (by omega) v hv)
        rw [ev] at kk
        exact ih (k + 1) _ (I := I1) (A := A1) (by rw [g1 0 (by decide)]; exact h) (by omega) ((f1 46 (by decide)).trans hc) (fun j hj => by rw [g1 38 (by decide)]; exact hsl j hj) (fun I2 A2 f2 g2 => kk I2 A2 (Fr_cons (Fr_cons (Fr_refl _ _) f1 (by decide)) f2 (by decide)) (Fr_cons (Fr_cons (Fr_refl _ _) g1 (by decide)) g2 (by decide)))
      · refine x_il2 (pc := 59) rfl rfl ?_
        refine x_ret (pc := 61) rfl rfl ?_
        cases hv : sB D (f k) t (bc (f k)) 0 with
        | none => exact absurd (by rw [hv]; decide) c56
        | some v =>
          have ev : sL D f bc t (z + 1) k = some v := by unfold sL; rw [hv]
          rw [ev] at kk
          exact kk I1 A1 (Fr_cons (Fr_refl _ _) f1 (by decide)) (Fr_cons (Fr_refl _ _) g1 (by decide))
set_option maxRecDepth 100000 in
set_option maxHeartbeats 4000000 in
theorem k_85_2 (h : DK (A 0) D) {cn : Nat} {f bc : Nat → Nat} {t : Int32} (hcn : cn ≤ 16) (hf : ∀ k, k < cn → f k < 16 ∧ WS D (f k) (bc (f k))) (hpos : ∀ k, k < cn → ∀ v, sB D (f k) t (bc (f k)) 0 = some v → ¬ v < 0) (h0 : I 0 = nI 1) (hc : I 46 = nI cn) (hsl : ∀ j, j < cn → A 38 j = nI (f j)) {Q : mO × mHp → Prop} (kk : ∀ I' A', Fr [4, 5, 6, 7, 8, 9, 10, 20, 21, 22] I I' → Fr [10, 11, 12, 13, 14] A A' → Q (.inl (some (.int ((sL D f bc t cn 0).getD (-1)))), hS n u I' A' J B mk sn L xs X)) : mq 85 0 [some (.ref 1), some (.int (nI 2)), some (.int t), none, none] [] (hS n u I A J B mk sn L xs X) Q := by
  refine x_al1 (pc := 0) rfl rfl ?_
  refine x_k (pc := 1) rfl rfl rfl ⟨Nat.le_of_ble_eq_true rfl, Nat.le_of_ble_eq_true rfl, Nat.le_of_ble_eq_true rfl⟩ rfl (k_60 h0 ?_)
  show mq 85 4 [some (.ref 1), some (.int (nI 2)), some (.int t), none, none] [] (hS n u I A J B mk sn L xs X) _
  refine x_il1 (pc := 4) rfl rfl ?_
  refine x_k (pc := 5) rfl rfl rfl ⟨Nat.le_of_ble_eq_true rfl, Nat.le_of_ble_eq_true rfl, Nat.le_of_ble_eq_true rfl⟩ rfl (k_48 (by decide) ?_)
  show mq 85 8 [some (.ref 1), some (.int (nI 2)), some (.int t), none, none] [.int (nI 1)] (hS n u I A J B mk sn L xs X) _
  refine x_ifN_ne (pc := 8) (t := 21) rfl rfl (by decide) (fun _ => ?_) (fun c => absurd c (by decide))
  refine x_const (pc := 21) (pc' := 22) (.int (nI 0)) rfl rfl rfl rfl ?_
  refine x_is1 (pc := 22) (ml' := [some (.ref 1), some (.int (nI 2)), some (.int t), some (.int (nI 0)), none]) rfl rfl ?_
  exact l_85_2 hcn hf hpos cn 0 none h (Nat.zero_add _) hc hsl kk
set_option maxRecDepth 100000 in
set_option maxHeartbeats 4000000 in
theorem l_85_3 {cn : Nat} {f bc : Nat → Nat} {t : Int32} (hcn : cn ≤ 16) (hf : ∀ k, k < cn → f k < 16 ∧ WS D (f k) (bc (f k))) (hpos : ∀ k, k < cn → ∀ v, sB D (f k) t (bc (f k)) 0 = some v → ¬ v < 0) {Q : mO × mHp → Prop} : ∀ (z k : Nat) (w4 : Option Value) {I : Nat → Int32} {A : Nat → Nat → Int32}, (DK (A 0) D) → (k + z = cn) → (I 49 = nI cn) → (∀ j, j < cn → A 42 j = nI (f j)) → (∀ I' A', Fr [4, 5, 6, 7, 8, 9, 10, 20, 21, 22] I I' → Fr [10, 11, 12, 13, 14] A A' → Q (.inl (some (.int ((sL D f bc t z k).getD (-1)))), hS n u I' A' J B mk sn L xs X)) → mq 85 23 [some (.ref 1), some (.int (nI 3)), some (.int t), some (.int (nI k)), w4] [] (hS n u I A J B mk sn L xs X) Q := by
  intro z
  induction z with
  | zero =>
    intro k w4 I A h hz hc hsl kk
    refine x_il1 (pc := 23) rfl rfl ?_
    refine x_al1 (pc := 24) rfl rfl ?_
    refine g_1_2 (pc := 25) rfl rfl ?_
    refine x_il1 (pc := 28) rfl rfl ?_
    refine aal (pc := 29) (q := 3) (a := 28) rfl rfl (by decide) rfl ?_
    refine g_28_5 (pc := 30) (v := nI cn) rfl rfl hc ?_
    refine x_cmpN_ge (pc := 33) (t := 68) rfl rfl (by omega) (by omega) (fun c33 => ?_) (fun c33 => ?_)
    · refine x_const (pc := 68) (pc' := 69) (.int (-1)) rfl rfl rfl rfl ?_
      refine x_ret (pc := 69) rfl rfl ?_
      exact kk I A (Fr_refl _ _) (Fr_refl _ _)
    · omega
  | succ z ih =>
    intro k w4 I A h hz hc hsl kk
    refine x_il1 (pc := 23) rfl rfl ?_
    refine x_al1 (pc := 24) rfl rfl ?_
    refine g_1_2 (pc := 25) rfl rfl ?_
    refine x_il1 (pc := 28) rfl rfl ?_
    refine aal (pc := 29) (q := 3) (a := 28) rfl rfl (by decide) rfl ?_
    refine g_28_5 (pc := 30) (v := nI cn) rfl rfl hc ?_
    refine x_cmpN_ge (pc := 33) (t := 68) rfl rfl (by omega) (by omega) (fun c33 => ?_) (fun c33 => ?_)
    · omega
    · refine x_al1 (pc := 36) rfl rfl ?_
      refine x_al1 (pc := 37) rfl rfl ?_
      refine g_1_2 (pc := 38) rfl rfl ?_
      refine x_il1 (pc := 41) rfl rfl ?_
      refine aal (pc := 42) (q := 3) (a := 28) rfl rfl (by decide) rfl ?_
      refine g_28_1 (pc := 43) rfl rfl ?_
      refine x_il1 (pc := 46) rfl rfl ?_
      refine al_29 (pc := 47) (q := k) (v := nI (f k)) rfl rfl (by omega) (hsl k (by omega)) ?_
      refine x_il1 (pc := 48) rfl rfl ?_
      refine x_k (pc := 49) rfl rfl rfl ⟨Nat.le_of_ble_eq_true rfl, Nat.le_of_ble_eq_true rfl, Nat.le_of_ble_eq_true rfl⟩ rfl (k_86 (t := t) h (hf k (by omega)).1 (hf k (by omega)).2 (fun I1 A1 f1 g1 => ?_))
      show mq 85 52 [some (.ref 1), some (.int (nI 3)), some (.int t), some (.int (nI k)), w4] [.int ((sB D (f k) t (bc (f k)) 0).getD (-1))] (hS n u I1 A1 J B mk sn L xs X) _
      refine x_is2 (pc := 52) (ml' := [some (.ref 1), some (.int (nI 3)), some (.int t), some (.int (nI k)), some (.int ((sB D (f k) t (bc (f k)) 0).getD (-1)))]) rfl rfl ?_
      refine x_il2 (pc := 54) rfl rfl ?_
      refine x_if_lt (pc := 56) (t := 62) rfl rfl rfl (fun c56 => ?_) (fun c56 => ?_)
      · refine x_iincN (pc := 62) (c := 1) (ml' := [some (.ref 1), some (.int (nI 3)), some (.int t), some (.int (nI (k + 1))), some (.int ((sB D (f k) t (bc (f k)) 0).getD (-1)))]) rfl rfl rfl rfl ?_
        refine x_step (pc := 65) (pc' := 23) rfl rfl rfl rfl ?_
        have ev : sL D f bc t (z + 1) k = sL D f bc t z (k + 1) := by
          cases hv : sB D (f k) t (bc (f k)) 0 with
          | none =>
            conv => lhs; unfold sL
            rw [hv]
          | some v => exact absurd (by rw [hv] at c56; exact c56) (hpos k (by omega) v hv)
        rw [ev] at kk
        exact ih (k + 1) _ (I := I1) (A := A1) (by rw [g1 0 (by decide)]; exact h) (by omega) ((f1 49 (by decide)).trans hc) (fun j hj => by rw [g1 42 (by decide)]; exact hsl j hj) (fun I2 A2 f2 g2 => kk I2 A2 (Fr_cons (Fr_cons (Fr_refl _ _) f1 (by decide)) f2 (by decide)) (Fr_cons (Fr_cons (Fr_refl _ _) g1 (by decide)) g2 (by decide)))
      · refine x_il2 (pc := 59) rfl rfl ?_
        refine x_ret (pc := 61) rfl rfl ?_
        cases hv : sB D (f k) t (bc (f k)) 0 with
        | none => exact absurd (by rw [hv]; decide) c56
        | some v =>
          have ev : sL D f bc t (z + 1) k = some v := by unfold sL; rw [hv]
          rw [ev] at kk
          exact kk I1 A1 (Fr_cons (Fr_refl _ _) f1 (by decide)) (Fr_cons (Fr_refl _ _) g1 (by decide))
set_option maxRecDepth 100000 in
set_option maxHeartbeats 4000000 in
theorem k_85_3 (h : DK (A 0) D) {cn : Nat} {f bc : Nat → Nat} {t : Int32} (hcn : cn ≤ 16) (hf : ∀ k, k < cn → f k < 16 ∧ WS D (f k) (bc (f k))) (hpos : ∀ k, k < cn → ∀ v, sB D (f k) t (bc (f k)) 0 = some v → ¬ v < 0) (h0 : I 0 = nI 1) (hc : I 49 = nI cn) (hsl : ∀ j, j < cn → A 42 j = nI (f j)) {Q : mO × mHp → Prop} (kk : ∀ I' A', Fr [4, 5, 6, 7, 8, 9, 10, 20, 21, 22] I I' → Fr [10, 11, 12, 13, 14] A A' → Q (.inl (some (.int ((sL D f bc t cn 0).getD (-1)))), hS n u I' A' J B mk sn L xs X)) : mq 85 0 [some (.ref 1), some (.int (nI 3)), some (.int t), none, none] [] (hS n u I A J B mk sn L xs X) Q := by
  refine x_al1 (pc := 0) rfl rfl ?_
  refine x_k (pc := 1) rfl rfl rfl ⟨Nat.le_of_ble_eq_true rfl, Nat.le_of_ble_eq_true rfl, Nat.le_of_ble_eq_true rfl⟩ rfl (k_60 h0 ?_)
  show mq 85 4 [some (.ref 1), some (.int (nI 3)), some (.int t), none, none] [] (hS n u I A J B mk sn L xs X) _
  refine x_il1 (pc := 4) rfl rfl ?_
  refine x_k (pc := 5) rfl rfl rfl ⟨Nat.le_of_ble_eq_true rfl, Nat.le_of_ble_eq_true rfl, Nat.le_of_ble_eq_true rfl⟩ rfl (k_48 (by decide) ?_)
  show mq 85 8 [some (.ref 1), some (.int (nI 3)), some (.int t), none, none] [.int (nI 1)] (hS n u I A J B mk sn L xs X) _
  refine x_ifN_ne (pc := 8) (t := 21) rfl rfl (by decide) (fun _ => ?_) (fun c => absurd c (by decide))
  refine x_const (pc := 21) (pc' := 22) (.int (nI 0)) rfl rfl rfl rfl ?_
  refine x_is1 (pc := 22) (ml' := [some (.ref 1), some (.int (nI 3)), some (.int t), some (.int (nI 0)), none]) rfl rfl ?_
  exact l_85_3 hcn hf hpos cn 0 none h (Nat.zero_add _) hc hsl kk
set_option maxRecDepth 100000 in
set_option maxHeartbeats 4000000 in
theorem k_85x {l t : Int32} (h0 : I 0 = nI 0) (hn : 77 ≤ n ∧ n < 10000) (hu : u + 6 < 1000000) {Q : mO × mHp → Prop} (kk : Q (.inr n, hS (n + 1) (u + 6) I A J B mk sn L xs (va_up X n (.inr (9, []))))) : mq 85 0 [some (.ref 1), some (.int l), some (.int t), none, none] [] (hS n u I A J B mk sn L xs X) Q := by
  refine x_al1 (pc := 0) rfl rfl ?_
  refine x_k (pc := 1) rfl rfl rfl ⟨Nat.le_of_ble_eq_true rfl, Nat.le_of_ble_eq_true rfl, Nat.le_of_ble_eq_true rfl⟩ rfl (k_60x h0 hn hu (mK_x rfl ?_))
  exact kk
set_option maxRecDepth 100000 in
set_option maxHeartbeats 4000000 in
theorem k_85b {l t : Int32} (h0 : I 0 = nI 1) (hx : l < 0 ∨ nI 4 ≤ l) (hn : 77 ≤ n ∧ n < 10000) (hu : u + 6 < 1000000) {Q : mO × mHp → Prop} (kk : Q (.inr n, hS (n + 1) (u + 6) I A J B mk sn L xs (va_up X n (.inr (10, []))))) : mq 85 0 [some (.ref 1), some (.int l), some (.int t), none, none] [] (hS n u I A J B mk sn L xs X) Q := by
  refine x_al1 (pc := 0) rfl rfl ?_
  refine x_k (pc := 1) rfl rfl rfl ⟨Nat.le_of_ble_eq_true rfl, Nat.le_of_ble_eq_true rfl, Nat.le_of_ble_eq_true rfl⟩ rfl (k_60 h0 ?_)
  show mq 85 4 [some (.ref 1), some (.int l), some (.int t), none, none] [] (hS n u I A J B mk sn L xs X) _
  refine x_il1 (pc := 4) rfl rfl ?_
  refine x_k (pc := 5) rfl rfl rfl ⟨Nat.le_of_ble_eq_true rfl, Nat.le_of_ble_eq_true rfl, Nat.le_of_ble_eq_true rfl⟩ rfl (k_48b hx ?_)
  show mq 85 8 [some (.ref 1), some (.int l), some (.int t), none, none] [.int (nI 0)] (hS n u I A J B mk sn L xs X) _
  refine x_ifN_ne (pc := 8) (t := 21) rfl rfl (by decide) (fun c => absurd c (by decide)) (fun _ => ?_)
  refine x_thr (pc := 11) rfl rfl hn hu rfl ⟨Nat.le_of_ble_eq_true rfl, Nat.le_of_ble_eq_true rfl⟩ ?_
  exact kk
end S35
