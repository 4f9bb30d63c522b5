/-! Slots as rows of batches; the model's next and first offset. -/
def nb (D : Nat → Nat) (q : Nat) : Nat := q + 1 + D q
/-- where the i-th batch from q on begins -/
def bt (D : Nat → Nat) (q : Nat) : Nat → Nat
  | 0 => q
  | i + 1 => nb D (bt D q i)
/-- a batch that is as it should be -/
def WB (D : Nat → Nat) (q : Nat) : Prop := 1 ≤ bN D q ∧ bN D q ≤ 4 ∧ (∀ i, i < bN D q → dR D q i ≤ 1) ∧ rq D q (bN D q) = nb D q
/-- a slot with c batches -/
def WS (D : Nat → Nat) (s c : Nat) : Prop := mB D s ≤ 128 ∧ bt D (128 * s + 8) c = 128 * s + mB D s ∧ ∀ i, i < c → WB D (bt D (128 * s + 8) i)
def sb (D : Nat → Nat) (s i : Nat) : Nat := bt D (128 * s + 8) i
section S30p
variable {D : Nat → Nat} {s c : Nat}
theorem bt_lt (D : Nat → Nat) (q i : Nat) : bt D q i < bt D q (i + 1) := by
  show bt D q i < bt D q i + 1 + D (bt D q i)
  omega
theorem bt_le (D : Nat → Nat) (q : Nat) {i j : Nat} (h : i ≤ j) : bt D q i + (j - i) ≤ bt D q j := by
  induction h with
  | refl => omega
  | step h ih =>
    rename_i m
    have := bt_lt D q m
    have h' : i ≤ m := h
    show bt D q i + (m + 1 - i) ≤ bt D q (m + 1)
    omega
theorem WS_in (h : WS D s c) {i : Nat} (hi : i < c) : 128 * s + 8 ≤ sb D s i ∧ sb D s i < 128 * s + mB D s ∧ sb D s (i + 1) ≤ 128 * s + mB D s := by
  have h1 := bt_le D (128 * s + 8) (Nat.zero_le i)
  have h2 := bt_le D (128 * s + 8) (show i + 1 ≤ c from hi)
  have h3 := bt_lt D (128 * s + 8) i
  have h4 := h.2.1
  have h5 : bt D (128 * s + 8) 0 = 128 * s + 8 := rfl
  unfold sb
  omega
theorem WS_end (h : WS D s c) : sb D s c = 128 * s + mB D s := h.2.1
theorem WS_8 (h : WS D s c) : 8 + c ≤ mB D s := by
  have h1 := bt_le D (128 * s + 8) (Nat.zero_le c)
  have h2 := h.2.1
  have h3 : bt D (128 * s + 8) 0 = 128 * s + 8 := rfl
  omega
theorem WS_128 (h : WS D s c) : mB D s ≤ 128 := h.1
theorem WS_b (h : WS D s c) {i : Nat} (hi : i < c) : WB D (sb D s i) := h.2.2 i hi
theorem WS_rq (h : WS D s c) {i : Nat} (hi : i < c) : rq D (sb D s i) (bN D (sb D s i)) = sb D s (i + 1) := (h.2.2 i hi).2.2.2
end S30p
/-- the offset behind j batches of a slot -/
def nxB (D : Nat → Nat) (s : Nat) : Nat → Int32
  | 0 => nI (bB D s)
  | j + 1 => oR D (bB D s) (sb D s j) (bN D (sb D s j) - 1) + 1
section S30
variable {n u : Nat} {I : Nat → Int32} {A : Nat → Nat → Int32} {J : Int64} {B : Nat → Int64} {mk sn L : Nat} {xs : Nat → Int32} {X : Nat → mC} {D : Nat → Nat} 
set_option maxRecDepth 100000 in
set_option maxHeartbeats 4000000 in
theorem l_116 {l s c : Nat} {w0 : Option Value} (hs : s < 16) (hW : WS D s c) {Q : mO × mHp → Prop} : ∀ (z j : Nat) {I : Nat → Int32} {A : Nat → Nat → Int32}, (DK (A 50) D) → (j + z = c) → (I 71 = nI (sb D s j)) → (∀ I' A', Fr [65, 66, 67, 71] I I' → Fr [52] A A' → Q (.inl (some (.int (nxB D s c))), hS n u I' A' J B mk sn L xs X)) → mq 116 37 [some (.ref 67), some (.int (nI l)), w0, some (.int (nI s)), some (.int (nxB D s j))] [] (hS n u I A J B mk sn L xs X) Q := by
  intro z
  induction z with
  | zero =>
    intro j I A h hz h71 kk
    have q1 := WS_128 hW
    have hj : j = c := by omega
    have hjc : sb D s j = 128 * s + mB D s := by rw [hj]; exact WS_end hW
    refine x_al1 (pc := 37) rfl rfl ?_
    refine g_67_19 (pc := 38) (v := nI (sb D s j)) rfl rfl h71 ?_
    refine x_al1 (pc := 41) rfl rfl ?_
    refine x_il1 (pc := 42) rfl rfl ?_
    refine x_k (pc := 43) rfl rfl rfl ⟨Nat.le_of_ble_eq_true rfl, Nat.le_of_ble_eq_true rfl, Nat.le_of_ble_eq_true rfl⟩ rfl (k_122 h hs ?_)
    show mq 116 46 [some (.ref 67), some (.int (nI l)), w0, some (.int (nI s)), some (.int (nxB D s j))] [.int (nI (128 * s + mB D s)), .int (nI (sb D s j))] (hS n u I A J B mk sn L xs X) _
    refine x_cmpN_ge (pc := 46) (t := 72) rfl rfl (by omega) (by omega) (fun c46 => ?_) (fun c46 => ?_)
    · subst hj
      exact x_il2 (pc := 72) rfl rfl (x_ret (pc := 74) rfl rfl (kk I A (Fr_refl _ _) (Fr_refl _ _)))
    · omega
  | succ z ih =>
    intro j I A h hz h71 kk
    have q1 := WS_128 hW
    have hj : j < c := by omega
    have q2 := WS_in hW hj
    refine x_al1 (pc := 37) rfl rfl ?_
    refine g_67_19 (pc := 38) (v := nI (sb D s j)) rfl rfl h71 ?_
    refine x_al1 (pc := 41) rfl rfl ?_
    refine x_il1 (pc := 42) rfl rfl ?_
    refine x_k (pc := 43) rfl rfl rfl ⟨Nat.le_of_ble_eq_true rfl, Nat.le_of_ble_eq_true rfl, Nat.le_of_ble_eq_true rfl⟩ rfl (k_122 h hs ?_)
    show mq 116 46 [some (.ref 67), some (.int (nI l)), w0, some (.int (nI s)), some (.int (nxB D s j))] [.int (nI (128 * s + mB D s)), .int (nI (sb D s j))] (hS n u I A J B mk sn L xs X) _
    refine x_cmpN_ge (pc := 46) (t := 72) rfl rfl (by omega) (by omega) (fun c46 => ?_) (fun c46 => ?_)
    · omega
    · refine x_al1 (pc := 49) rfl rfl ?_
      refine x_il1 (pc := 50) rfl rfl ?_
      refine x_k (pc := 51) rfl rfl rfl ⟨Nat.le_of_ble_eq_true rfl, Nat.le_of_ble_eq_true rfl, Nat.le_of_ble_eq_true rfl⟩ rfl (k_124 (I := I) (A := A) (k := s) (q := sb D s j) h hs h71 (WS_b hW hj).2.1 (WS_b hW hj).2.2.1 (by rw [WS_rq hW hj]; have := WS_in hW hj; have := WS_128 hW; omega) (fun I1 A1 f1 g1 e1 hg => ?_))
      show mq 116 54 [some (.ref 67), some (.int (nI l)), w0, some (.int (nI s)), some (.int (nxB D s j))] [] (hS n u I1 A1 J B mk sn L xs X) _
      refine x_al1 (pc := 54) rfl rfl ?_
      refine g_67_7 (pc := 55) rfl rfl ?_
      refine x_al1 (pc := 58) rfl rfl ?_
      refine g_67_9 (pc := 59) (v := nI (bN D (sb D s j))) rfl rfl hg.2.2.1 ?_
      refine x_const (pc := 62) (pc' := 63) (.int (nI 1)) rfl rfl rfl rfl ?_
      refine x_isubN (pc := 63) rfl ((WS_b hW hj).1) ?_
      refine al_70 (pc := 64) (q := bN D (sb D s j) - 1) (v := oR D (bB D s) (sb D s j) (bN D (sb D s j) - 1)) rfl rfl (by have := (WS_b hW hj).2.1; omega) ((hg.2.2.2 _ (by have := (WS_b hW hj).1; omega)).1) ?_
      refine x_const (pc := 65) (pc' := 66) (.int (nI 1)) rfl rfl rfl rfl ?_
      refine x_iadd (pc := 66) rfl rfl ?_
      refine x_top (y := nxB D s (j + 1)) (rfl) ?_
      refine x_is2 (pc := 67) (ml' := [some (.ref 67), some (.int (nI l)), w0, some (.int (nI s)), some (.int (nxB D s (j + 1)))]) rfl rfl ?_
      refine x_step (pc := 69) (pc' := 37) rfl rfl rfl rfl ?_
      exact ih (j + 1) (I := I1) (A := A1) (by rw [g1 50 (by decide)]; exact h) (by omega) (e1.trans (congrArg nI (WS_rq hW hj))) (fun I2 A2 f2 g2 => kk I2 A2 (Fr_cons (Fr_cons (Fr_refl _ _) f1 (by decide)) f2 (by decide)) (Fr_cons (Fr_cons (Fr_refl _ _) g1 (by decide)) g2 (by decide)))
set_option maxRecDepth 100000 in
set_option maxHeartbeats 4000000 in
theorem k_116 (h : DK (A 50) D) {l n' : Nat} {f : Nat → Nat} (hl : l < 4) (hG : SG D l f n') (h61 : I 61 = nI 0) {c : Nat} (hn : 0 < n') (hW : WS D (f (n' - 1)) c) {Q : mO × mHp → Prop} (kk : ∀ I' A', Fr [65, 66, 67, 71] I I' → Fr [52] A A' → Q (.inl (some (.int (nxB D (f (n' - 1)) c))), hS n u I' A' J B mk sn L xs X)) : mq 116 0 [some (.ref 67), some (.int (nI l)), none, none, none] [] (hS n u I A J B mk sn L xs X) Q := by
  have hs := (hG.1 (n' - 1) (by omega)).1
  refine x_al1 (pc := 0) rfl rfl ?_
  refine x_il1 (pc := 1) rfl rfl ?_
  refine x_k (pc := 2) rfl rfl rfl ⟨Nat.le_of_ble_eq_true rfl, Nat.le_of_ble_eq_true rfl, Nat.le_of_ble_eq_true rfl⟩ rfl (k_117 h hl h61 ?_)
  show mq 116 5 [some (.ref 67), some (.int (nI l)), none, none, none] [.int (nI (cS (ow D l) 16))] (hS n u I A J B mk sn L xs X) _
  refine x_top (y := nI n') (congrArg nI (SG_n hG)) ?_
  refine x_is1 (pc := 5) (ml' := [some (.ref 67), some (.int (nI l)), some (.int (nI n')), none, none]) rfl rfl ?_
  refine x_il1 (pc := 6) rfl rfl ?_
  refine x_ifN_ne (pc := 7) (t := 12) rfl rfl (by have := SG_le hG; omega) (fun c7 => ?_) (fun c7 => ?_)
  · refine x_al1 (pc := 12) rfl rfl ?_
    refine x_il1 (pc := 13) rfl rfl ?_
    refine x_il1 (pc := 14) rfl rfl ?_
    refine x_const (pc := 15) (pc' := 16) (.int (nI 1)) rfl rfl rfl rfl ?_
    refine x_isubN (pc := 16) rfl (hn) ?_
    refine x_k (pc := 17) rfl rfl rfl ⟨Nat.le_of_ble_eq_true rfl, Nat.le_of_ble_eq_true rfl, Nat.le_of_ble_eq_true rfl⟩ rfl (k_119 (m := n' - 1) h hG (by omega) hl h61 ?_)
    show mq 116 20 [some (.ref 67), some (.int (nI l)), some (.int (nI n')), none, none] [.int (nI (f (n' - 1)))] (hS n u I A J B mk sn L xs X) _
    refine x_is1 (pc := 20) (ml' := [some (.ref 67), some (.int (nI l)), some (.int (nI n')), some (.int (nI (f (n' - 1)))), none]) rfl rfl ?_
    refine x_al1 (pc := 21) rfl rfl ?_
    refine x_il1 (pc := 22) rfl rfl ?_
    refine x_k (pc := 23) rfl rfl rfl ⟨Nat.le_of_ble_eq_true rfl, Nat.le_of_ble_eq_true rfl, Nat.le_of_ble_eq_true rfl⟩ rfl (mq_k (c_120 h hs) ?_)
    show mq 116 26 [some (.ref 67), some (.int (nI l)), some (.int (nI n')), some (.int (nI (f (n' - 1)))), none] [.int (nI (bB D (f (n' - 1))))] (hS n u I A J B mk sn L xs X) _
    refine x_is2 (pc := 26) (ml' := [some (.ref 67), some (.int (nI l)), some (.int (nI n')), some (.int (nI (f (n' - 1)))), some (.int (nI (bB D (f (n' - 1)))))]) rfl rfl ?_
    refine x_al1 (pc := 28) rfl rfl ?_
    refine x_al1 (pc := 29) rfl rfl ?_
    refine x_il1 (pc := 30) rfl rfl ?_
    refine x_k (pc := 31) rfl rfl rfl ⟨Nat.le_of_ble_eq_true rfl, Nat.le_of_ble_eq_true rfl, Nat.le_of_ble_eq_true rfl⟩ rfl (k_121 ?_)
    show mq 116 34 [some (.ref 67), some (.int (nI l)), some (.int (nI n')), some (.int (nI (f (n' - 1)))), some (.int (nI (bB D (f (n' - 1)))))] [.int (nI (128 * (f (n' - 1)) + 8)), .ref 67] (hS n u I A J B mk sn L xs X) _
    refine p_67_19 (pc := 34) rfl rfl ?_
    exact l_116 (I := va_up I 71 (nI (128 * (f (n' - 1)) + 8))) hs hW c 0 h (Nat.zero_add c) rfl (fun I2 A2 f2 g2 => kk I2 A2 (Fr_cons (Fr_u (Fr_refl _ _) (by decide)) f2 (by decide)) g2)
  · omega
set_option maxRecDepth 100000 in
set_option maxHeartbeats 4000000 in
theorem k_116z (h : DK (A 50) D) {l n' : Nat} {f : Nat → Nat} (hl : l < 4) (hG : SG D l f n') (h61 : I 61 = nI 0) (hn : n' = 0) {Q : mO × mHp → Prop} (kk : Q (.inl (some (.int (nI 0))), hS n u I A J B mk sn L xs X)) : mq 116 0 [some (.ref 67), some (.int (nI l)), none, none, none] [] (hS n u I A J B mk sn L xs X) Q := by
  refine x_al1 (pc := 0) rfl rfl ?_
  refine x_il1 (pc := 1) rfl rfl ?_
  refine x_k (pc := 2) rfl rfl rfl ⟨Nat.le_of_ble_eq_true rfl, Nat.le_of_ble_eq_true rfl, Nat.le_of_ble_eq_true rfl⟩ rfl (k_117 h hl h61 ?_)
  show mq 116 5 [some (.ref 67), some (.int (nI l)), none, none, none] [.int (nI (cS (ow D l) 16))] (hS n u I A J B mk sn L xs X) _
  refine x_top (y := nI n') (congrArg nI (SG_n hG)) ?_
  refine x_is1 (pc := 5) (ml' := [some (.ref 67), some (.int (nI l)), some (.int (nI n')), none, none]) rfl rfl ?_
  refine x_il1 (pc := 6) rfl rfl ?_
  refine x_ifN_ne (pc := 7) (t := 12) rfl rfl (by omega) (fun c7 => ?_) (fun c7 => ?_)
  · omega
  · refine x_const (pc := 10) (pc' := 11) (.int (nI 0)) rfl rfl rfl rfl ?_
    refine x_ret (pc := 11) rfl rfl ?_
    exact kk
set_option maxRecDepth 100000 in
set_option maxHeartbeats 4000000 in
theorem k_116f {l : Int32} (h61 : I 61 = nI 1) {Q : mO × mHp → Prop} (kk : Q (.inl (some (.int (nI 0))), hS n u I A J B mk sn L xs X)) : mq 116 0 [some (.ref 67), some (.int l), none, none, none] [] (hS n u I A J B mk sn L xs X) Q := by
  refine x_al1 (pc := 0) rfl rfl ?_
  refine x_il1 (pc := 1) rfl rfl ?_
  refine x_k (pc := 2) rfl rfl rfl ⟨Nat.le_of_ble_eq_true rfl, Nat.le_of_ble_eq_true rfl, Nat.le_of_ble_eq_true rfl⟩ rfl (k_117f h61 ?_)
  show mq 116 5 [some (.ref 67), some (.int l), none, none, none] [.int (nI 0)] (hS n u I A J B mk sn L xs X) _
  refine x_is1 (pc := 5) (ml' := [some (.ref 67), some (.int l), some (.int (nI 0)), none, none]) rfl rfl ?_
  refine x_il1 (pc := 6) rfl rfl ?_
  refine x_ifN_ne (pc := 7) (t := 12) rfl rfl (by omega) (fun c7 => ?_) (fun c7 => ?_)
  · exact absurd rfl c7
  · refine x_const (pc := 10) (pc' := 11) (.int (nI 0)) rfl rfl rfl rfl ?_
    refine x_ret (pc := 11) rfl rfl ?_
    exact kk
set_option maxRecDepth 100000 in
set_option maxHeartbeats 4000000 in
theorem k_138 (h : DK (A 50) D) {l n' : Nat} {f : Nat → Nat} (hl : l < 4) (hG : SG D l f n') (h61 : I 61 = nI 0) {Q : mO × mHp → Prop} (kk : Q (.inl (some (.int (nI (if 1 < l ∨ n' = 0 then 0 else bB D (f 0))))), hS n u I A J B mk sn L xs X)) : mq 138 0 [some (.ref 67), some (.int (nI l))] [] (hS n u I A J B mk sn L xs X) Q := by
  refine x_il1 (pc := 0) rfl rfl ?_
  refine x_const (pc := 1) (pc' := 2) (.int (nI 1)) rfl rfl rfl rfl ?_
  refine x_cmpN_gt (pc := 2) (t := 13) rfl rfl (by omega) (by omega) (fun c2 => ?_) (fun c2 => ?_)
  · refine x_const (pc := 13) (pc' := 14) (.int (nI 0)) rfl rfl rfl rfl ?_
    refine x_step (pc := 14) (pc' := 27) rfl rfl rfl rfl ?_
    refine x_ret (pc := 27) rfl rfl ?_
    rw [if_pos (by omega)] at kk
    exact kk
  · refine x_al1 (pc := 5) rfl rfl ?_
    refine x_il1 (pc := 6) rfl rfl ?_
    refine x_k (pc := 7) rfl rfl rfl ⟨Nat.le_of_ble_eq_true rfl, Nat.le_of_ble_eq_true rfl, Nat.le_of_ble_eq_true rfl⟩ rfl (k_117 h hl h61 ?_)
    show mq 138 10 [some (.ref 67), some (.int (nI l))] [.int (nI (cS (ow D l) 16))] (hS n u I A J B mk sn L xs X) _
    refine x_top (y := nI n') (congrArg nI (SG_n hG)) ?_
    refine x_ifN_ne (pc := 10) (t := 17) rfl rfl (by have := SG_le hG; omega) (fun c10 => ?_) (fun c10 => ?_)
    · refine x_al1 (pc := 17) rfl rfl ?_
      refine x_al1 (pc := 18) rfl rfl ?_
      refine x_il1 (pc := 19) rfl rfl ?_
      refine x_const (pc := 20) (pc' := 21) (.int (nI 0)) rfl rfl rfl rfl ?_
      refine x_k (pc := 21) rfl rfl rfl ⟨Nat.le_of_ble_eq_true rfl, Nat.le_of_ble_eq_true rfl, Nat.le_of_ble_eq_true rfl⟩ rfl (k_119 (m := 0) h hG (by omega) hl h61 ?_)
      show mq 138 24 [some (.ref 67), some (.int (nI l))] [.int (nI (f (0))), .ref 67] (hS n u I A J B mk sn L xs X) _
      refine x_k (pc := 24) rfl rfl rfl ⟨Nat.le_of_ble_eq_true rfl, Nat.le_of_ble_eq_true rfl, Nat.le_of_ble_eq_true rfl⟩ rfl (mq_k (c_120 h (hG.1 0 (by omega)).1) ?_)
      show mq 138 27 [some (.ref 67), some (.int (nI l))] [.int (nI (bB D (f (0))))] (hS n u I A J B mk sn L xs X) _
      refine x_ret (pc := 27) rfl rfl ?_
      rw [if_neg (by omega)] at kk
      exact kk
    · refine x_const (pc := 13) (pc' := 14) (.int (nI 0)) rfl rfl rfl rfl ?_
      refine x_step (pc := 14) (pc' := 27) rfl rfl rfl rfl ?_
      refine x_ret (pc := 27) rfl rfl ?_
      rw [if_pos (by omega)] at kk
      exact kk
set_option maxRecDepth 100000 in
set_option maxHeartbeats 4000000 in
theorem k_138f {l : Nat} (hl : l < 4) (h61 : I 61 = nI 1) {Q : mO × mHp → Prop} (kk : Q (.inl (some (.int (nI 0))), hS n u I A J B mk sn L xs X)) : mq 138 0 [some (.ref 67), some (.int (nI l))] [] (hS n u I A J B mk sn L xs X) Q := by
  refine x_il1 (pc := 0) rfl rfl ?_
  refine x_const (pc := 1) (pc' := 2) (.int (nI 1)) rfl rfl rfl rfl ?_
  refine x_cmpN_gt (pc := 2) (t := 13) rfl rfl (by omega) (by omega) (fun c2 => ?_) (fun c2 => ?_)
  · refine x_const (pc := 13) (pc' := 14) (.int (nI 0)) rfl rfl rfl rfl ?_
    refine x_step (pc := 14) (pc' := 27) rfl rfl rfl rfl ?_
    refine x_ret (pc := 27) rfl rfl ?_
    exact kk
  · refine x_al1 (pc := 5) rfl rfl ?_
    refine x_il1 (pc := 6) rfl rfl ?_
    refine x_k (pc := 7) rfl rfl rfl ⟨Nat.le_of_ble_eq_true rfl, Nat.le_of_ble_eq_true rfl, Nat.le_of_ble_eq_true rfl⟩ rfl (k_117f h61 ?_)
    show mq 138 10 [some (.ref 67), some (.int (nI l))] [.int (nI 0)] (hS n u I A J B mk sn L xs X) _
    refine x_ifN_ne (pc := 10) (t := 17) rfl rfl (by omega) (fun c10 => ?_) (fun c10 => ?_)
    · exact absurd rfl c10
    · refine x_const (pc := 13) (pc' := 14) (.int (nI 0)) rfl rfl rfl rfl ?_
      refine x_step (pc := 14) (pc' := 27) rfl rfl rfl rfl ?_
      refine x_ret (pc := 27) rfl rfl ?_
      exact kk
end S30
