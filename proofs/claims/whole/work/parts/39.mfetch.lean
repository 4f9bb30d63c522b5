/-! Fetch: the model. -/
/-- the model's found records -/
def FM (I : Nat → Int32) (A : Nat → Nat → Int32) (l : List R5) : Prop := I 69 = nI l.length ∧ ∀ i, i < l.length → A 57 (5 * i) = (gR l i).1 ∧ A 57 (5 * i + 1) = (gR l i).2.1 ∧ A 57 (5 * i + 2) = (gR l i).2.2.1 ∧ A 57 (5 * i + 3) = (gR l i).2.2.2.1 ∧ A 57 (5 * i + 4) = (gR l i).2.2.2.2
theorem FM_s {I I' : Nat → Int32} {A A' : Nat → Nat → Int32} {l : List R5} {v : R5} (h : FM I A l) (hI : I' 69 = nI (l.length + 1)) (e : A' 57 = upd (upd (upd (upd (upd (A 57) (5 * l.length) v.1) (5 * l.length + 1) v.2.1) (5 * l.length + 2) v.2.2.1) (5 * l.length + 3) v.2.2.2.1) (5 * l.length + 4) v.2.2.2.2) : FM I' A' (l ++ [v]) := by
  refine ⟨by rw [hI]; simp, fun i hi => ?_⟩
  rw [e]
  by_cases hl : i = l.length
  · subst hl
    rw [gR_at]
    refine ⟨?_, ?_, ?_, ?_, pk_us⟩
    · rw [pk_un (by omega), pk_un (by omega), pk_un (by omega), pk_un (by omega)]; exact pk_us
    · rw [pk_un (by omega), pk_un (by omega), pk_un (by omega)]; exact pk_us
    · rw [pk_un (by omega), pk_un (by omega)]; exact pk_us
    · rw [pk_un (by omega)]; exact pk_us
  · have hi' : i < l.length := by
      simp at hi
      omega
    rw [gR_lt hi']
    have h1 := h.2 i hi'
    refine ⟨?_, ?_, ?_, ?_, ?_⟩
    · rw [pk_un (by omega), pk_un (by omega), pk_un (by omega), pk_un (by omega), pk_un (by omega)]; exact h1.1
    · rw [pk_un (by omega), pk_un (by omega), pk_un (by omega), pk_un (by omega), pk_un (by omega)]; exact h1.2.1
    · rw [pk_un (by omega), pk_un (by omega), pk_un (by omega), pk_un (by omega), pk_un (by omega)]; exact h1.2.2.1
    · rw [pk_un (by omega), pk_un (by omega), pk_un (by omega), pk_un (by omega), pk_un (by omega)]; exact h1.2.2.2.1
    · rw [pk_un (by omega), pk_un (by omega), pk_un (by omega), pk_un (by omega), pk_un (by omega)]; exact h1.2.2.2.2
theorem FM_fr {SI SA : List Nat} {I I' : Nat → Int32} {A A' : Nat → Nat → Int32} {l : List R5} (h : FM I A l) (f : Fr SI I I') (g : Fr SA A A') (hs : 69 ∉ SI) (h5 : 57 ∉ SA) : FM I' A' l := ⟨(f 69 hs).trans h.1, fun i hi => by
  rw [g 57 h5]
  exact h.2 i hi⟩
theorem neg_gap {p q : Nat} (hp : p < 2 ^ 20) (hq : q < 2 ^ 20) : nI 40 ≤ nI p - nI q ↔ q + 40 ≤ p := by
  rw [Int32.le_iff_toInt_le, pk_sub_toInt (by omega) (by omega), nI_toInt (by decide)]
  omega
section S39
variable {n u : Nat} {I : Nat → Int32} {A : Nat → Nat → Int32} {J : Int64} {B : Nat → Int64} {mk sn L : Nat} {xs : Nat → Int32} {X : Nat → mC} {D : Nat → Nat} 
set_option maxRecDepth 100000 in
set_option maxHeartbeats 4000000 in
theorem l_140 {b q m nn : Nat} {o : Int32} (hm : m ≤ 4) (hnn : nn ≤ 8) {Q : mO × mHp → Prop} : ∀ (z k : Nat) (l : List R5) (w4 : Option Value) {I : Nat → Int32} {A : Nat → Nat → Int32}, (k + z = m) → (I 65 = nI m) → (GBn A D b q m) → (l.length ≤ nn) → (FM I A l) → (∀ I' A', Fr [69] I I' → Fr [57] A A' → FM I' A' (fR D b q o nn z k l) → Q (.inl none, hS n u I' A' J B mk sn L xs X)) → mq 140 2 [some (.ref 67), some (.int o), some (.int (nI nn)), some (.int (nI k)), w4] [] (hS n u I A J B mk sn L xs X) Q := by
  intro z
  induction z with
  | zero =>
    intro k l w4 I A hz h65 hr hln hF kk
    refine x_il1 (pc := 2) rfl rfl ?_
    refine x_al1 (pc := 3) rfl rfl ?_
    refine g_67_9 (pc := 4) (v := nI m) rfl rfl h65 ?_
    refine x_cmpN_ge (pc := 7) (t := 87) rfl rfl (by omega) (by omega) (fun c7 => ?_) (fun c7 => ?_)
    · refine x_ret (pc := 87) rfl rfl ?_
      exact kk I A (Fr_refl _ _) (Fr_refl _ _) hF
    · omega
  | succ z ih =>
    intro k l w4 I A hz h65 hr hln hF kk
    refine x_il1 (pc := 2) rfl rfl ?_
    refine x_al1 (pc := 3) rfl rfl ?_
    refine g_67_9 (pc := 4) (v := nI m) rfl rfl h65 ?_
    refine x_cmpN_ge (pc := 7) (t := 87) rfl rfl (by omega) (by omega) (fun c7 => ?_) (fun c7 => ?_)
    · omega
    · refine x_al1 (pc := 10) rfl rfl ?_
      refine g_67_17 (pc := 11) (v := nI l.length) rfl rfl hF.1 ?_
      refine x_il1 (pc := 14) rfl rfl ?_
      refine x_cmpN_ge (pc := 15) (t := 87) rfl rfl (by omega) (by omega) (fun c15 => ?_) (fun c15 => ?_)
      · have ev : fR D b q o nn (z + 1) k l = l := by
          unfold fR
          rw [if_pos c15]
        rw [ev] at kk
        refine x_ret (pc := 87) rfl rfl ?_
        exact kk I A (Fr_refl _ _) (Fr_refl _ _) hF
      · refine x_al1 (pc := 18) rfl rfl ?_
        refine g_67_7 (pc := 19) rfl rfl ?_
        refine x_il1 (pc := 22) rfl rfl ?_
        refine al_70 (pc := 23) (q := k) (v := oR D b q k) rfl rfl (by omega) ((hr k (by omega)).1) ?_
        refine x_il1 (pc := 24) rfl rfl ?_
        refine x_cmp_ge (pc := 25) (t := 31) rfl rfl rfl (fun c25 => ?_) (fun c25 => ?_)
        · refine x_const (pc := 31) (pc' := 32) (.int (nI 0)) rfl rfl rfl rfl ?_
          refine x_is2 (pc := 32) (ml' := [some (.ref 67), some (.int o), some (.int (nI nn)), some (.int (nI k)), some (.int (nI 0))]) rfl rfl ?_
          refine x_il2 (pc := 34) rfl rfl ?_
          refine x_const (pc := 36) (pc' := 37) (.int (nI 5)) rfl rfl rfl rfl ?_
          refine x_cmpN_ge (pc := 37) (t := 71) rfl rfl (by decide) (by decide) (fun c => absurd c (by decide)) (fun _ => ?_)
          refine x_al1 (pc := 40) rfl rfl ?_
          refine g_67_16 (pc := 41) rfl rfl ?_
          refine x_const (pc := 44) (pc' := 45) (.int (nI 5)) rfl rfl rfl rfl ?_
          refine x_al1 (pc := 45) rfl rfl ?_
          refine g_67_17 (pc := 46) (v := nI l.length) rfl rfl hF.1 ?_
          refine x_imulN (pc := 49) (c := 5 * l.length) rfl rfl ?_
          refine x_il2 (pc := 50) rfl rfl ?_
          refine x_iaddN (pc := 52) (c := (5 * l.length) + 0) rfl rfl ?_
          refine x_al1 (pc := 53) rfl rfl ?_
          refine g_67_7 (pc := 54) rfl rfl ?_
          refine x_const (pc := 57) (pc' := 58) (.int (nI 4)) rfl rfl rfl rfl ?_
          refine x_il2 (pc := 58) rfl rfl ?_
          refine x_imulN (pc := 60) (c := 0) rfl rfl ?_
          refine x_il1 (pc := 61) rfl rfl ?_
          refine x_iaddN (pc := 62) (c := 0 + k) rfl rfl ?_
          refine al_70 (pc := 63) (q := k) (v := oR D b q k) rfl (congrArg nI (Nat.zero_add k)) (by omega) ((hr k (by omega)).1) ?_
          refine as_75 (pc := 64) (q := 5 * l.length) rfl rfl (by omega) ?_
          refine x_iincN (pc := 65) (c := 1) (ml' := [some (.ref 67), some (.int o), some (.int (nI nn)), some (.int (nI k)), some (.int (nI 1))]) rfl rfl rfl rfl ?_
          refine x_step (pc := 68) (pc' := 34) rfl rfl rfl rfl ?_
          refine x_il2 (pc := 34) rfl rfl ?_
          refine x_const (pc := 36) (pc' := 37) (.int (nI 5)) rfl rfl rfl rfl ?_
          refine x_cmpN_ge (pc := 37) (t := 71) rfl rfl (by decide) (by decide) (fun c => absurd c (by decide)) (fun _ => ?_)
          refine x_al1 (pc := 40) rfl rfl ?_
          refine g_67_16 (pc := 41) rfl rfl ?_
          refine x_const (pc := 44) (pc' := 45) (.int (nI 5)) rfl rfl rfl rfl ?_
          refine x_al1 (pc := 45) rfl rfl ?_
          refine g_67_17 (pc := 46) (v := nI l.length) rfl rfl hF.1 ?_
          refine x_imulN (pc := 49) (c := 5 * l.length) rfl rfl ?_
          refine x_il2 (pc := 50) rfl rfl ?_
          refine x_iaddN (pc := 52) (c := (5 * l.length) + 1) rfl rfl ?_
          refine x_al1 (pc := 53) rfl rfl ?_
          refine g_67_7 (pc := 54) rfl rfl ?_
          refine x_const (pc := 57) (pc' := 58) (.int (nI 4)) rfl rfl rfl rfl ?_
          refine x_il2 (pc := 58) rfl rfl ?_
          refine x_imulN (pc := 60) (c := 4) rfl rfl ?_
          refine x_il1 (pc := 61) rfl rfl ?_
          refine x_iaddN (pc := 62) (c := 4 + k) rfl rfl ?_
          refine al_70 (pc := 63) (q := 4 + k) (v := tR D q k) rfl rfl (by omega) ((hr k (by omega)).2.1) ?_
          refine as_75 (pc := 64) (q := 5 * l.length + 1) rfl rfl (by omega) ?_
          refine x_iincN (pc := 65) (c := 1) (ml' := [some (.ref 67), some (.int o), some (.int (nI nn)), some (.int (nI k)), some (.int (nI 2))]) rfl rfl rfl rfl ?_
          refine x_step (pc := 68) (pc' := 34) rfl rfl rfl rfl ?_
          refine x_il2 (pc := 34) rfl rfl ?_
          refine x_const (pc := 36) (pc' := 37) (.int (nI 5)) rfl rfl rfl rfl ?_
          refine x_cmpN_ge (pc := 37) (t := 71) rfl rfl (by decide) (by decide) (fun c => absurd c (by decide)) (fun _ => ?_)
          refine x_al1 (pc := 40) rfl rfl ?_
          refine g_67_16 (pc := 41) rfl rfl ?_
          refine x_const (pc := 44) (pc' := 45) (.int (nI 5)) rfl rfl rfl rfl ?_
          refine x_al1 (pc := 45) rfl rfl ?_
          refine g_67_17 (pc := 46) (v := nI l.length) rfl rfl hF.1 ?_
          refine x_imulN (pc := 49) (c := 5 * l.length) rfl rfl ?_
          refine x_il2 (pc := 50) rfl rfl ?_
          refine x_iaddN (pc := 52) (c := (5 * l.length) + 2) rfl rfl ?_
          refine x_al1 (pc := 53) rfl rfl ?_
          refine g_67_7 (pc := 54) rfl rfl ?_
          refine x_const (pc := 57) (pc' := 58) (.int (nI 4)) rfl rfl rfl rfl ?_
          refine x_il2 (pc := 58) rfl rfl ?_
          refine x_imulN (pc := 60) (c := 8) rfl rfl ?_
          refine x_il1 (pc := 61) rfl rfl ?_
          refine x_iaddN (pc := 62) (c := 8 + k) rfl rfl ?_
          refine al_70 (pc := 63) (q := 8 + k) (v := kR D q k) rfl rfl (by omega) ((hr k (by omega)).2.2.1) ?_
          refine as_75 (pc := 64) (q := 5 * l.length + 2) rfl rfl (by omega) ?_
          refine x_iincN (pc := 65) (c := 1) (ml' := [some (.ref 67), some (.int o), some (.int (nI nn)), some (.int (nI k)), some (.int (nI 3))]) rfl rfl rfl rfl ?_
          refine x_step (pc := 68) (pc' := 34) rfl rfl rfl rfl ?_
          refine x_il2 (pc := 34) rfl rfl ?_
          refine x_const (pc := 36) (pc' := 37) (.int (nI 5)) rfl rfl rfl rfl ?_
          refine x_cmpN_ge (pc := 37) (t := 71) rfl rfl (by decide) (by decide) (fun c => absurd c (by decide)) (fun _ => ?_)
          refine x_al1 (pc := 40) rfl rfl ?_
          refine g_67_16 (pc := 41) rfl rfl ?_
          refine x_const (pc := 44) (pc' := 45) (.int (nI 5)) rfl rfl rfl rfl ?_
          refine x_al1 (pc := 45) rfl rfl ?_
          refine g_67_17 (pc := 46) (v := nI l.length) rfl rfl hF.1 ?_
          refine x_imulN (pc := 49) (c := 5 * l.length) rfl rfl ?_
          refine x_il2 (pc := 50) rfl rfl ?_
          refine x_iaddN (pc := 52) (c := (5 * l.length) + 3) rfl rfl ?_
          refine x_al1 (pc := 53) rfl rfl ?_
          refine g_67_7 (pc := 54) rfl rfl ?_
          refine x_const (pc := 57) (pc' := 58) (.int (nI 4)) rfl rfl rfl rfl ?_
          refine x_il2 (pc := 58) rfl rfl ?_
          refine x_imulN (pc := 60) (c := 12) rfl rfl ?_
          refine x_il1 (pc := 61) rfl rfl ?_
          refine x_iaddN (pc := 62) (c := 12 + k) rfl rfl ?_
          refine al_70 (pc := 63) (q := 12 + k) (v := vR D q k) rfl rfl (by omega) ((hr k (by omega)).2.2.2.1) ?_
          refine as_75 (pc := 64) (q := 5 * l.length + 3) rfl rfl (by omega) ?_
          refine x_iincN (pc := 65) (c := 1) (ml' := [some (.ref 67), some (.int o), some (.int (nI nn)), some (.int (nI k)), some (.int (nI 4))]) rfl rfl rfl rfl ?_
          refine x_step (pc := 68) (pc' := 34) rfl rfl rfl rfl ?_
          refine x_il2 (pc := 34) rfl rfl ?_
          refine x_const (pc := 36) (pc' := 37) (.int (nI 5)) rfl rfl rfl rfl ?_
          refine x_cmpN_ge (pc := 37) (t := 71) rfl rfl (by decide) (by decide) (fun c => absurd c (by decide)) (fun _ => ?_)
          refine x_al1 (pc := 40) rfl rfl ?_
          refine g_67_16 (pc := 41) rfl rfl ?_
          refine x_const (pc := 44) (pc' := 45) (.int (nI 5)) rfl rfl rfl rfl ?_
          refine x_al1 (pc := 45) rfl rfl ?_
          refine g_67_17 (pc := 46) (v := nI l.length) rfl rfl hF.1 ?_
          refine x_imulN (pc := 49) (c := 5 * l.length) rfl rfl ?_
          refine x_il2 (pc := 50) rfl rfl ?_
          refine x_iaddN (pc := 52) (c := (5 * l.length) + 4) rfl rfl ?_
          refine x_al1 (pc := 53) rfl rfl ?_
          refine g_67_7 (pc := 54) rfl rfl ?_
          refine x_const (pc := 57) (pc' := 58) (.int (nI 4)) rfl rfl rfl rfl ?_
          refine x_il2 (pc := 58) rfl rfl ?_
          refine x_imulN (pc := 60) (c := 16) rfl rfl ?_
          refine x_il1 (pc := 61) rfl rfl ?_
          refine x_iaddN (pc := 62) (c := 16 + k) rfl rfl ?_
          refine al_70 (pc := 63) (q := 16 + k) (v := nI (dR D q k)) rfl rfl (by omega) ((hr k (by omega)).2.2.2.2) ?_
          refine as_75 (pc := 64) (q := 5 * l.length + 4) rfl rfl (by omega) ?_
          refine x_iincN (pc := 65) (c := 1) (ml' := [some (.ref 67), some (.int o), some (.int (nI nn)), some (.int (nI k)), some (.int (nI 5))]) rfl rfl rfl rfl ?_
          refine x_step (pc := 68) (pc' := 34) rfl rfl rfl rfl ?_
          refine x_il2 (pc := 34) rfl rfl ?_
          refine x_const (pc := 36) (pc' := 37) (.int (nI 5)) rfl rfl rfl rfl ?_
          refine x_cmpN_ge (pc := 37) (t := 71) rfl rfl (by decide) (by decide) (fun _ => ?_) (fun c => absurd c (by decide))
          refine x_al1 (pc := 71) rfl rfl ?_
          refine x_step (pc := 72) (pc' := 73) (st' := [.ref 67, .ref 67]) rfl rfl rfl rfl ?_
          refine g_67_17 (pc := 73) (v := nI l.length) rfl rfl hF.1 ?_
          refine x_const (pc := 76) (pc' := 77) (.int (nI 1)) rfl rfl rfl rfl ?_
          refine x_iaddN (pc := 77) (c := l.length + 1) rfl rfl ?_
          refine p_67_17 (pc := 78) rfl rfl ?_
          refine x_iincN (pc := 81) (c := 1) (ml' := [some (.ref 67), some (.int o), some (.int (nI nn)), some (.int (nI (k + 1))), some (.int (nI 5))]) rfl rfl rfl rfl ?_
          refine x_step (pc := 84) (pc' := 2) rfl rfl rfl rfl ?_
          have ev : fR D b q o nn (z + 1) k l = fR D b q o nn z (k + 1) (l ++ [r5 D b q k]) := by
            conv => lhs; unfold fR
            rw [if_neg c15, if_neg (Int32.not_lt.mpr c25)]
          rw [ev] at kk
          exact ih (k + 1) (l ++ [r5 D b q k]) _ (I := va_up I 69 (nI (l.length + 1))) (A := va_up (va_up (va_up (va_up (va_up A 57 (upd (A 57) (5 * l.length) (oR D b q k))) 57 (upd (upd (A 57) (5 * l.length) (oR D b q k)) (5 * l.length + 1) (tR D q k))) 57 (upd (upd (upd (A 57) (5 * l.length) (oR D b q k)) (5 * l.length + 1) (tR D q k)) (5 * l.length + 2) (kR D q k))) 57 (upd (upd (upd (upd (A 57) (5 * l.length) (oR D b q k)) (5 * l.length + 1) (tR D q k)) (5 * l.length + 2) (kR D q k)) (5 * l.length + 3) (vR D q k))) 57 (upd (upd (upd (upd (upd (A 57) (5 * l.length) (oR D b q k)) (5 * l.length + 1) (tR D q k)) (5 * l.length + 2) (kR D q k)) (5 * l.length + 3) (vR D q k)) (5 * l.length + 4) (nI (dR D q k)))) (by omega) h65 (fun j hj => hr j hj) (by simp; omega) (FM_s hF rfl rfl) (fun I2 A2 f2 g2 hF2 => kk I2 A2 (Fr_cons (Fr_u (Fr_refl _ _) (by decide)) f2 (by decide)) (Fr_cons (Fr_u (Fr_u (Fr_u (Fr_u (Fr_u (Fr_refl _ _) (by decide)) (by decide)) (by decide)) (by decide)) (by decide)) g2 (by decide)) hF2)
        · refine x_step (pc := 28) (pc' := 81) rfl rfl rfl rfl ?_
          refine x_iincN (pc := 81) (c := 1) (ml' := [some (.ref 67), some (.int o), some (.int (nI nn)), some (.int (nI (k + 1))), w4]) rfl rfl rfl rfl ?_
          refine x_step (pc := 84) (pc' := 2) rfl rfl rfl rfl ?_
          have ev : fR D b q o nn (z + 1) k l = fR D b q o nn z (k + 1) l := by
            conv => lhs; unfold fR
            rw [if_neg c15, if_pos (Int32.not_le.mp c25)]
          rw [ev] at kk
          exact ih (k + 1) l _ (by omega) h65 hr hln hF kk
set_option maxRecDepth 100000 in
set_option maxHeartbeats 4000000 in
theorem k_140 {b q nn : Nat} {o : Int32} {l : List R5} (hm : bN D q ≤ 4) (hnn : nn ≤ 8) (hg : GB I A D b q) (hln : l.length ≤ nn) (hF : FM I A l) {Q : mO × mHp → Prop} (kk : ∀ I' A', Fr [69] I I' → Fr [57] A A' → FM I' A' (fR D b q o nn (bN D q) 0 l) → Q (.inl none, hS n u I' A' J B mk sn L xs X)) : mq 140 0 [some (.ref 67), some (.int o), some (.int (nI nn)), none, none] [] (hS n u I A J B mk sn L xs X) Q := by
  refine x_const (pc := 0) (pc' := 1) (.int (nI 0)) rfl rfl rfl rfl ?_
  refine x_is1 (pc := 1) (ml' := [some (.ref 67), some (.int o), some (.int (nI nn)), some (.int (nI 0)), none]) rfl rfl ?_
  exact l_140 hm hnn (bN D q) 0 l none (Nat.zero_add _) hg.2.2.1 hg.2.2.2 hln hF kk
/-- how the model keeps the latest entry -/
def eM (s j e : Nat) (x : Int32) : Prop := (j = 0 ∧ e = 8 ∧ x = -100) ∨ (48 ≤ e ∧ x = nI (128 * s + e - 40))
set_option maxRecDepth 100000 in
set_option maxHeartbeats 4000000 in
theorem l_139 {s c : Nat} {o : Int32} (hs : s < 16) (hW : WS D s c) {Q : mO × mHp → Prop} : ∀ (z j e r : Nat) (x : Int32) (w5 : Option Value) {I : Nat → Int32} {A : Nat → Nat → Int32}, (DK (A 50) D) → (j + z = c) → (I 71 = nI (sb D s j)) → (e < 1000) → (eM s j e x) → (∀ I' A', Fr [65, 66, 67, 71] I I' → Fr [52] A A' → Q (.inl (some (.int (nI (sb D s (eB D s o z j e r))))), hS n u I' A' J B mk sn L xs X)) → mq 139 19 [some (.ref 67), some (.int (nI s)), some (.int o), some (.int (nI (sb D s r))), some (.int x), w5] [] (hS n u I A J B mk sn L xs X) Q := by
  intro z
  induction z with
  | zero =>
    intro j e r x w5 I A h hz h71 he hE kk
    have q9 := WS_128 hW
    have hj : j = c := by omega
    have hjc : sb D s j = 128 * s + mB D s := by rw [hj]; exact WS_end hW
    refine x_al1 (pc := 19) rfl rfl ?_
    refine g_67_19 (pc := 20) (v := nI (sb D s j)) rfl rfl h71 ?_
    refine x_al1 (pc := 23) rfl rfl ?_
    refine x_il1 (pc := 24) rfl rfl ?_
    refine x_k (pc := 25) rfl rfl rfl ⟨Nat.le_of_ble_eq_true rfl, Nat.le_of_ble_eq_true rfl, Nat.le_of_ble_eq_true rfl⟩ rfl (k_122 (I := I) (A := A) h hs ?_)
    show mq 139 28 [some (.ref 67), some (.int (nI s)), some (.int o), some (.int (nI (sb D s r))), some (.int x), w5] [.int (nI (128 * s + mB D s)), .int (nI (sb D s j))] (hS n u I A J B mk sn L xs X) _
    refine x_cmpN_ge (pc := 28) (t := 84) rfl rfl (by omega) (by omega) (fun c28 => ?_) (fun c28 => ?_)
    · refine x_il1 (pc := 84) rfl rfl ?_
      refine x_ret (pc := 85) rfl rfl ?_
      exact kk I A (Fr_refl _ _) (Fr_refl _ _)
    · omega
  | succ z ih =>
    intro j e r x w5 I A h hz h71 he hE kk
    have hj : j < c := by omega
    have q9 := WS_128 hW
    have qin := WS_in hW hj
    have qpb := pb_in hW hj
    have qp0 := pb_0 D s
    refine x_al1 (pc := 19) rfl rfl ?_
    refine g_67_19 (pc := 20) (v := nI (sb D s j)) rfl rfl h71 ?_
    refine x_al1 (pc := 23) rfl rfl ?_
    refine x_il1 (pc := 24) rfl rfl ?_
    refine x_k (pc := 25) rfl rfl rfl ⟨Nat.le_of_ble_eq_true rfl, Nat.le_of_ble_eq_true rfl, Nat.le_of_ble_eq_true rfl⟩ rfl (k_122 (I := I) (A := A) h hs ?_)
    show mq 139 28 [some (.ref 67), some (.int (nI s)), some (.int o), some (.int (nI (sb D s r))), some (.int x), w5] [.int (nI (128 * s + mB D s)), .int (nI (sb D s j))] (hS n u I A J B mk sn L xs X) _
    refine x_cmpN_ge (pc := 28) (t := 84) rfl rfl (by omega) (by omega) (fun c28 => ?_) (fun c28 => ?_)
    · omega
    · refine x_al1 (pc := 31) rfl rfl ?_
      refine g_67_19 (pc := 32) (v := nI (sb D s j)) rfl rfl h71 ?_
      refine x_is2 (pc := 35) (ml' := [some (.ref 67), some (.int (nI s)), some (.int o), some (.int (nI (sb D s r))), some (.int x), some (.int (nI (sb D s j)))]) rfl rfl ?_
      refine x_al1 (pc := 37) rfl rfl ?_
      refine x_il1 (pc := 38) rfl rfl ?_
      refine x_k (pc := 39) rfl rfl rfl ⟨Nat.le_of_ble_eq_true rfl, Nat.le_of_ble_eq_true rfl, Nat.le_of_ble_eq_true rfl⟩ rfl (k_124 (I := I) (A := A) (k := s) (q := sb D s j) h hs h71 (WS_b hW hj).2.1 (WS_b hW hj).2.2.1 (by rw [WS_rq hW hj]; omega) (fun I1 A1 f1 g1 e1 hg => ?_))
      show mq 139 42 [some (.ref 67), some (.int (nI s)), some (.int o), some (.int (nI (sb D s r))), some (.int x), some (.int (nI (sb D s j)))] [] (hS n u I1 A1 J B mk sn L xs X) _
      refine x_il2 (pc := 42) rfl rfl ?_
      refine x_il2 (pc := 44) rfl rfl ?_
      refine x_isub (pc := 46) rfl rfl ?_
      refine x_const (pc := 47) (pc' := 49) (.int (nI 40)) rfl rfl rfl rfl ?_
      refine x_cmp_ge (pc := 49) (t := 60) rfl rfl rfl (fun c49 => ?_) (fun c49 => ?_)
      · have hep : e ≤ pb D s j := by
          rcases hE with ⟨q1, q2, q3⟩ | ⟨q1, q2⟩
          · rw [q1]; omega
          · subst q2; have := (neg_gap (by omega) (by omega)).mp c49; omega
        refine x_il2 (pc := 60) rfl rfl ?_
        refine x_is2 (pc := 62) (ml' := [some (.ref 67), some (.int (nI s)), some (.int o), some (.int (nI (sb D s r))), some (.int (nI (sb D s j))), some (.int (nI (sb D s j)))]) rfl rfl ?_
        refine x_al1 (pc := 64) rfl rfl ?_
        refine g_67_7 (pc := 65) rfl rfl ?_
        refine x_const (pc := 68) (pc' := 69) (.int (nI 0)) rfl rfl rfl rfl ?_
        refine al_70 (pc := 69) (q := 0) (v := oR D (bB D s) (sb D s j) 0) rfl rfl (by decide) ((hg.2.2.2 0 (WS_b hW hj).1).1) ?_
        refine x_il1 (pc := 70) rfl rfl ?_
        refine x_cmp_gt (pc := 71) (t := 79) rfl rfl rfl (fun c71 => ?_) (fun c71 => ?_)
        · refine x_il1 (pc := 79) rfl rfl ?_
          refine x_is1 (pc := 80) (ml' := [some (.ref 67), some (.int (nI s)), some (.int o), some (.int (nI (sb D s r))), some (.int (nI (sb D s j))), some (.int (nI (sb D s j)))]) rfl rfl ?_
          refine x_step (pc := 81) (pc' := 19) rfl rfl rfl rfl ?_
          have ev : eB D s o (z + 1) j e r = eB D s o z (j + 1) (eN e (pb D s j)) r := by
            conv => lhs; unfold eB
            rw [if_neg (fun q => absurd q.2 (Int32.not_le.mpr c71))]
          rw [ev] at kk
          exact ih (j + 1) (eN e (pb D s j)) r _ _ (I := I1) (A := A1) (by rw [g1 50 (by decide)]; exact h) (by omega) (e1.trans (congrArg nI (WS_rq hW hj))) (eN_lt he (pb_le hW (by omega))) (by unfold eN; rw [if_pos hep]; exact Or.inr ⟨by omega, congrArg nI (by omega)⟩) (fun I2 A2 f2 g2 => kk I2 A2 (Fr_cons f1 f2 (by decide)) (Fr_cons g1 g2 (by decide)))
        · refine x_il2 (pc := 74) rfl rfl ?_
          refine x_step (pc := 76) (pc' := 80) rfl rfl rfl rfl ?_
          refine x_is1 (pc := 80) (ml' := [some (.ref 67), some (.int (nI s)), some (.int o), some (.int (nI (sb D s j))), some (.int (nI (sb D s j))), some (.int (nI (sb D s j)))]) rfl rfl ?_
          refine x_step (pc := 81) (pc' := 19) rfl rfl rfl rfl ?_
          have ev : eB D s o (z + 1) j e r = eB D s o z (j + 1) (eN e (pb D s j)) j := by
            conv => lhs; unfold eB
            rw [if_pos ⟨hep, Int32.not_lt.mp c71⟩]
          rw [ev] at kk
          exact ih (j + 1) (eN e (pb D s j)) j _ _ (I := I1) (A := A1) (by rw [g1 50 (by decide)]; exact h) (by omega) (e1.trans (congrArg nI (WS_rq hW hj))) (eN_lt he (pb_le hW (by omega))) (by unfold eN; rw [if_pos hep]; exact Or.inr ⟨by omega, congrArg nI (by omega)⟩) (fun I2 A2 f2 g2 => kk I2 A2 (Fr_cons f1 f2 (by decide)) (Fr_cons g1 g2 (by decide)))
      · refine x_il2 (pc := 52) rfl rfl ?_
        refine x_if_lt (pc := 54) (t := 60) rfl rfl rfl (fun c54 => ?_) (fun c54 => ?_)
        · have hep : e ≤ pb D s j := by
            rcases hE with ⟨q1, q2, q3⟩ | ⟨q1, q2⟩
            · rw [q1]; omega
            · subst q2; exact absurd c54 (nI_pos (by omega))
          refine x_il2 (pc := 60) rfl rfl ?_
          refine x_is2 (pc := 62) (ml' := [some (.ref 67), some (.int (nI s)), some (.int o), some (.int (nI (sb D s r))), some (.int (nI (sb D s j))), some (.int (nI (sb D s j)))]) rfl rfl ?_
          refine x_al1 (pc := 64) rfl rfl ?_
          refine g_67_7 (pc := 65) rfl rfl ?_
          refine x_const (pc := 68) (pc' := 69) (.int (nI 0)) rfl rfl rfl rfl ?_
          refine al_70 (pc := 69) (q := 0) (v := oR D (bB D s) (sb D s j) 0) rfl rfl (by decide) ((hg.2.2.2 0 (WS_b hW hj).1).1) ?_
          refine x_il1 (pc := 70) rfl rfl ?_
          refine x_cmp_gt (pc := 71) (t := 79) rfl rfl rfl (fun c71 => ?_) (fun c71 => ?_)
          · refine x_il1 (pc := 79) rfl rfl ?_
            refine x_is1 (pc := 80) (ml' := [some (.ref 67), some (.int (nI s)), some (.int o), some (.int (nI (sb D s r))), some (.int (nI (sb D s j))), some (.int (nI (sb D s j)))]) rfl rfl ?_
            refine x_step (pc := 81) (pc' := 19) rfl rfl rfl rfl ?_
            have ev : eB D s o (z + 1) j e r = eB D s o z (j + 1) (eN e (pb D s j)) r := by
              conv => lhs; unfold eB
              rw [if_neg (fun q => absurd q.2 (Int32.not_le.mpr c71))]
            rw [ev] at kk
            exact ih (j + 1) (eN e (pb D s j)) r _ _ (I := I1) (A := A1) (by rw [g1 50 (by decide)]; exact h) (by omega) (e1.trans (congrArg nI (WS_rq hW hj))) (eN_lt he (pb_le hW (by omega))) (by unfold eN; rw [if_pos hep]; exact Or.inr ⟨by omega, congrArg nI (by omega)⟩) (fun I2 A2 f2 g2 => kk I2 A2 (Fr_cons f1 f2 (by decide)) (Fr_cons g1 g2 (by decide)))
          · refine x_il2 (pc := 74) rfl rfl ?_
            refine x_step (pc := 76) (pc' := 80) rfl rfl rfl rfl ?_
            refine x_is1 (pc := 80) (ml' := [some (.ref 67), some (.int (nI s)), some (.int o), some (.int (nI (sb D s j))), some (.int (nI (sb D s j))), some (.int (nI (sb D s j)))]) rfl rfl ?_
            refine x_step (pc := 81) (pc' := 19) rfl rfl rfl rfl ?_
            have ev : eB D s o (z + 1) j e r = eB D s o z (j + 1) (eN e (pb D s j)) j := by
              conv => lhs; unfold eB
              rw [if_pos ⟨hep, Int32.not_lt.mp c71⟩]
            rw [ev] at kk
            exact ih (j + 1) (eN e (pb D s j)) j _ _ (I := I1) (A := A1) (by rw [g1 50 (by decide)]; exact h) (by omega) (e1.trans (congrArg nI (WS_rq hW hj))) (eN_lt he (pb_le hW (by omega))) (by unfold eN; rw [if_pos hep]; exact Or.inr ⟨by omega, congrArg nI (by omega)⟩) (fun I2 A2 f2 g2 => kk I2 A2 (Fr_cons f1 f2 (by decide)) (Fr_cons g1 g2 (by decide)))
        · refine x_step (pc := 57) (pc' := 19) rfl rfl rfl rfl ?_
          have hep : ¬ e ≤ pb D s j := by
            rcases hE with ⟨q1, q2, q3⟩ | ⟨q1, q2⟩
            · subst q3; exact absurd c54 (by decide)
            · subst q2; intro q; exact c49 ((neg_gap (by omega) (by omega)).mpr (by omega))
          have ev : eB D s o (z + 1) j e r = eB D s o z (j + 1) (eN e (pb D s j)) r := by
            conv => lhs; unfold eB
            rw [if_neg (fun q => hep q.1)]
          rw [ev] at kk
          exact ih (j + 1) (eN e (pb D s j)) r x _ (I := I1) (A := A1) (by rw [g1 50 (by decide)]; exact h) (by omega) (e1.trans (congrArg nI (WS_rq hW hj))) (eN_lt he (pb_le hW (by omega))) (by unfold eN; rw [if_neg hep]; exact hE.elim (fun q => absurd (by rw [q.1]; omega) hep) Or.inr) (fun I2 A2 f2 g2 => kk I2 A2 (Fr_cons f1 f2 (by decide)) (Fr_cons g1 g2 (by decide)))
set_option maxRecDepth 100000 in
set_option maxHeartbeats 4000000 in
theorem k_139 (h : DK (A 50) D) {s c : Nat} {o : Int32} (hs : s < 16) (hW : WS D s c) {Q : mO × mHp → Prop} (kk : ∀ I' A', Fr [65, 66, 67, 71] I I' → Fr [52] A A' → Q (.inl (some (.int (nI (sb D s (eB D s o c 0 8 0))))), hS n u I' A' J B mk sn L xs X)) : mq 139 0 [some (.ref 67), some (.int (nI s)), some (.int o), none, none, none] [] (hS n u I A J B mk sn L xs X) Q := by
  refine x_al1 (pc := 0) rfl rfl ?_
  refine x_il1 (pc := 1) rfl rfl ?_
  refine x_k (pc := 2) rfl rfl rfl ⟨Nat.le_of_ble_eq_true rfl, Nat.le_of_ble_eq_true rfl, Nat.le_of_ble_eq_true rfl⟩ rfl (k_121 (I := I) (A := A) ?_)
  show mq 139 5 [some (.ref 67), some (.int (nI s)), some (.int o), none, none, none] [.int (nI (128 * s + 8))] (hS n u I A J B mk sn L xs X) _
  refine x_is1 (pc := 5) (ml' := [some (.ref 67), some (.int (nI s)), some (.int o), some (.int (nI (128 * s + 8))), none, none]) rfl rfl ?_
  refine x_const (pc := 6) (pc' := 8) (.int (-100)) rfl rfl rfl rfl ?_
  refine x_is2 (pc := 8) (ml' := [some (.ref 67), some (.int (nI s)), some (.int o), some (.int (nI (128 * s + 8))), some (.int (-100)), none]) rfl rfl ?_
  refine x_al1 (pc := 10) rfl rfl ?_
  refine x_al1 (pc := 11) rfl rfl ?_
  refine x_il1 (pc := 12) rfl rfl ?_
  refine x_k (pc := 13) rfl rfl rfl ⟨Nat.le_of_ble_eq_true rfl, Nat.le_of_ble_eq_true rfl, Nat.le_of_ble_eq_true rfl⟩ rfl (k_121 (I := I) (A := A) ?_)
  show mq 139 16 [some (.ref 67), some (.int (nI s)), some (.int o), some (.int (nI (128 * s + 8))), some (.int (-100)), none] [.int (nI (128 * s + 8)), .ref 67] (hS n u I A J B mk sn L xs X) _
  refine p_67_19 (pc := 16) rfl rfl ?_
  exact l_139 (I := va_up I 71 (nI (128 * s + 8))) hs hW c 0 8 0 _ none h (Nat.zero_add _) rfl (by decide) (Or.inl ⟨rfl, rfl, rfl⟩) (fun I2 A2 f2 g2 => kk I2 A2 (Fr_cons (Fr_u (Fr_refl _ _) (by decide)) f2 (by decide)) g2)
end S39
