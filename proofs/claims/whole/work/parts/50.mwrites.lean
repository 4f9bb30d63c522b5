/-! Writes: the model. -/
section S50
variable {n u : Nat} {I : Nat → Int32} {A : Nat → Nat → Int32} {J : Int64} {B : Nat → Int64} {mk sn L : Nat} {xs : Nat → Int32} {X : Nat → mC} {D : Nat → Nat} 
set_option maxRecDepth 100000 in
set_option maxHeartbeats 4000000 in
theorem l_135a  {Q : mO × mHp → Prop} : ∀ (z j : Nat) {A : Nat → Nat → Int32}, (j + z = 96) → (∀ i, i < j → A 55 i = nI 0) → (∀ A', Fr [55] A A' → (∀ i, i < 96 → A' 55 i = nI 0) → mq 135 36 [some (.ref 67), some (.int (nI 96))] [] (hS n u I A' J B mk sn L xs X) Q) → mq 135 17 [some (.ref 67), some (.int (nI j))] [] (hS n u I A J B mk sn L xs X) Q := by
  intro z
  induction z with
  | zero =>
    intro j A hz hj kk
    refine x_il1 (pc := 17) rfl rfl ?_
    refine x_const (pc := 18) (pc' := 20) (.int (nI 96)) rfl rfl rfl rfl ?_
    refine x_cmpN_ge (pc := 20) (t := 36) rfl rfl (by omega) (by omega) (fun c20 => ?_) (fun c20 => ?_)
    · have hj5 : j = 96 := by omega
      subst hj5
      exact kk A (Fr_refl _ _) hj
    · omega
  | succ z ih =>
    intro j A hz hj kk
    refine x_il1 (pc := 17) rfl rfl ?_
    refine x_const (pc := 18) (pc' := 20) (.int (nI 96)) rfl rfl rfl rfl ?_
    refine x_cmpN_ge (pc := 20) (t := 36) rfl rfl (by omega) (by omega) (fun c20 => ?_) (fun c20 => ?_)
    · omega
    · refine x_al1 (pc := 23) rfl rfl ?_
      refine g_67_14 (pc := 24) rfl rfl ?_
      refine x_il1 (pc := 27) rfl rfl ?_
      refine x_const (pc := 28) (pc' := 29) (.int (nI 0)) rfl rfl rfl rfl ?_
      refine as_73 (pc := 29) (q := j) rfl rfl (by omega) ?_
      refine x_iincN (pc := 30) (c := 1) (ml' := [some (.ref 67), some (.int (nI (j + 1)))]) rfl rfl rfl rfl ?_
      refine x_step (pc := 33) (pc' := 17) rfl rfl rfl rfl ?_
      refine ih (j + 1) (A := va_up A 55 (upd (A 55) j (nI 0))) (by omega) (fun i hi => ?_) (fun A9 g9 h9 => kk A9 (Fr_cons (Fr_u (Fr_refl _ _) (by decide)) g9 (by decide)) h9)
      by_cases h5 : i = j
      · subst h5
        exact pk_us
      · exact (pk_un h5).trans (hj i (by omega))
set_option maxRecDepth 100000 in
set_option maxHeartbeats 4000000 in
theorem l_135b  {Q : mO × mHp → Prop} : ∀ (z j : Nat) {A : Nat → Nat → Int32}, (j + z = 32) → (∀ i, i < j → A 56 i = nI 0) → (∀ A', Fr [56] A A' → (∀ i, i < 32 → A' 56 i = nI 0) → mq 135 57 [some (.ref 67), some (.int (nI 32))] [] (hS n u I A' J B mk sn L xs X) Q) → mq 135 38 [some (.ref 67), some (.int (nI j))] [] (hS n u I A J B mk sn L xs X) Q := by
  intro z
  induction z with
  | zero =>
    intro j A hz hj kk
    refine x_il1 (pc := 38) rfl rfl ?_
    refine x_const (pc := 39) (pc' := 41) (.int (nI 32)) rfl rfl rfl rfl ?_
    refine x_cmpN_ge (pc := 41) (t := 57) rfl rfl (by omega) (by omega) (fun c41 => ?_) (fun c41 => ?_)
    · have hj5 : j = 32 := by omega
      subst hj5
      exact kk A (Fr_refl _ _) hj
    · omega
  | succ z ih =>
    intro j A hz hj kk
    refine x_il1 (pc := 38) rfl rfl ?_
    refine x_const (pc := 39) (pc' := 41) (.int (nI 32)) rfl rfl rfl rfl ?_
    refine x_cmpN_ge (pc := 41) (t := 57) rfl rfl (by omega) (by omega) (fun c41 => ?_) (fun c41 => ?_)
    · omega
    · refine x_al1 (pc := 44) rfl rfl ?_
      refine g_67_15 (pc := 45) rfl rfl ?_
      refine x_il1 (pc := 48) rfl rfl ?_
      refine x_const (pc := 49) (pc' := 50) (.int (nI 0)) rfl rfl rfl rfl ?_
      refine as_74 (pc := 50) (q := j) rfl rfl (by omega) ?_
      refine x_iincN (pc := 51) (c := 1) (ml' := [some (.ref 67), some (.int (nI (j + 1)))]) rfl rfl rfl rfl ?_
      refine x_step (pc := 54) (pc' := 38) rfl rfl rfl rfl ?_
      refine ih (j + 1) (A := va_up A 56 (upd (A 56) j (nI 0))) (by omega) (fun i hi => ?_) (fun A9 g9 h9 => kk A9 (Fr_cons (Fr_u (Fr_refl _ _) (by decide)) g9 (by decide)) h9)
      by_cases h5 : i = j
      · subst h5
        exact pk_us
      · exact (pk_un h5).trans (hj i (by omega))
set_option maxRecDepth 100000 in
set_option maxHeartbeats 4000000 in
theorem k_135  {Q : mO × mHp → Prop} (kk : ∀ I' A', Fr [64, 69, 70] I I' → Fr [55, 56] A A' → fgM I' A' → Q (.inl none, hS n u I' A' J B mk sn L xs X)) : mq 135 0 [some (.ref 67), none] [] (hS n u I A J B mk sn L xs X) Q := by
  refine x_al1 (pc := 0) rfl rfl ?_
  refine x_const (pc := 1) (pc' := 2) (.int (nI 0)) rfl rfl rfl rfl ?_
  refine p_67_6 (pc := 2) rfl rfl ?_
  refine x_al1 (pc := 5) rfl rfl ?_
  refine x_const (pc := 6) (pc' := 7) (.int (nI 0)) rfl rfl rfl rfl ?_
  refine p_67_17 (pc := 7) rfl rfl ?_
  refine x_al1 (pc := 10) rfl rfl ?_
  refine x_const (pc := 11) (pc' := 12) (.int (nI 0)) rfl rfl rfl rfl ?_
  refine p_67_18 (pc := 12) rfl rfl ?_
  refine x_const (pc := 15) (pc' := 16) (.int (nI 0)) rfl rfl rfl rfl ?_
  refine x_is1 (pc := 16) (ml' := [some (.ref 67), some (.int (nI 0))]) rfl rfl ?_
  refine l_135a (I := va_up (va_up (va_up I 64 (nI 0)) 69 (nI 0)) 70 (nI 0)) 96 0 (Nat.zero_add _) (fun i hi => absurd hi (Nat.not_lt_zero i)) (fun A1 g1 h1 => ?_)
  refine x_const (pc := 36) (pc' := 37) (.int (nI 0)) rfl rfl rfl rfl ?_
  refine x_is1 (pc := 37) (ml' := [some (.ref 67), some (.int (nI 0))]) rfl rfl ?_
  refine l_135b (I := va_up (va_up (va_up I 64 (nI 0)) 69 (nI 0)) 70 (nI 0)) 32 0 (Nat.zero_add _) (fun i hi => absurd hi (Nat.not_lt_zero i)) (fun A2 g2 h2 => ?_)
  refine x_ret (pc := 57) rfl rfl ?_
  exact kk _ _ (Fr_u (Fr_u (Fr_u (Fr_refl _ _) (by decide)) (by decide)) (by decide)) (Fr_cons (Fr_cons (Fr_refl _ _) g1 (by decide)) g2 (by decide)) ⟨rfl, rfl, rfl, fun k hk => by rw [g2 55 (by decide)]; exact h1 k hk, h2⟩
set_option maxRecDepth 100000 in
set_option maxHeartbeats 4000000 in
theorem k_134_f (h61 : I 61 = nI 1) {Q : mO × mHp → Prop} (kk : Q (.inl (some (.int (nI 0))), hS n u I A J B mk sn L xs X)) : mq 134 0 [some (.ref 67)] [] (hS n u I A J B mk sn L xs X) Q := by
  refine x_al1 (pc := 0) rfl rfl ?_
  refine g_67_2 (pc := 1) (v := nI 1) rfl rfl h61 ?_
  refine x_ifN_eq (pc := 4) (t := 9) rfl rfl (by decide) (fun c => absurd c (by decide)) (fun _ => ?_)
  refine x_const (pc := 7) (pc' := 8) (.int (nI 0)) rfl rfl rfl rfl ?_
  refine x_ret (pc := 8) rfl rfl ?_
  exact kk
set_option maxRecDepth 100000 in
set_option maxHeartbeats 4000000 in
theorem k_134_x (h61 : I 61 = nI 0) (h63 : I 63 = nI 0) {Q : mO × mHp → Prop} (kk : ∀ I' A', Fr [61, 63, 64, 69, 70] I I' → Fr [55, 56] A A' → I' 61 = nI 1 → I' 63 = -1 → fgM I' A' → Q (.inl (some (.int (nI 0))), hS n u I' A' J B mk sn L xs X)) : mq 134 0 [some (.ref 67)] [] (hS n u I A J B mk sn L xs X) Q := by
  refine x_al1 (pc := 0) rfl rfl ?_
  refine g_67_2 (pc := 1) (v := nI 0) rfl rfl h61 ?_
  refine x_ifN_eq (pc := 4) (t := 9) rfl rfl (by decide) (fun _ => ?_) (fun c => absurd c (by decide))
  refine x_al1 (pc := 9) rfl rfl ?_
  refine g_67_4 (pc := 10) (v := nI 0) rfl rfl h63 ?_
  refine x_ifN_ne (pc := 13) (t := 32) rfl rfl (by decide) (fun c => absurd c (by decide)) (fun _ => ?_)
  refine x_al1 (pc := 16) rfl rfl ?_
  refine x_const (pc := 17) (pc' := 18) (.int (nI 1)) rfl rfl rfl rfl ?_
  refine p_67_2 (pc := 18) rfl rfl (by decide) ?_
  refine x_al1 (pc := 21) rfl rfl ?_
  refine x_const (pc := 22) (pc' := 23) (.int (-1)) rfl rfl rfl rfl ?_
  refine p_67_4 (pc := 23) rfl rfl ?_
  refine x_al1 (pc := 26) rfl rfl ?_
  refine x_k (pc := 27) rfl rfl rfl ⟨Nat.le_of_ble_eq_true rfl, Nat.le_of_ble_eq_true rfl, Nat.le_of_ble_eq_true rfl⟩ rfl (k_135 (I := va_up (va_up I 61 (nI 1)) 63 (-1)) (A := A) (fun I1 A1 f1 g1 h1 => ?_))
  show mq 134 30 [some (.ref 67)] [] (hS n u I1 A1 J B mk sn L xs X) _
  refine x_const (pc := 30) (pc' := 31) (.int (nI 0)) rfl rfl rfl rfl ?_
  refine x_ret (pc := 31) rfl rfl ?_
  exact kk _ _ (Fr_cons (Fr_u (Fr_u (Fr_refl _ _) (by decide)) (by decide)) f1 (by decide)) (Fr_cons (Fr_refl _ _) g1 (by decide)) ((f1 61 (by decide)).trans rfl) ((f1 63 (by decide)).trans rfl) h1
set_option maxRecDepth 100000 in
set_option maxHeartbeats 4000000 in
theorem k_134_n {w : Nat} (h61 : I 61 = nI 0) (h63 : I 63 = -1) (h62 : I 62 = nI w) {Q : mO × mHp → Prop} (kk : ∀ I', Fr [62, 63] I I' → I' 63 = -1 → I' 62 = nI (w + 1) → Q (.inl (some (.int (nI 1))), hS n u I' A J B mk sn L xs X)) : mq 134 0 [some (.ref 67)] [] (hS n u I A J B mk sn L xs X) Q := by
  refine x_al1 (pc := 0) rfl rfl ?_
  refine g_67_2 (pc := 1) (v := nI 0) rfl rfl h61 ?_
  refine x_ifN_eq (pc := 4) (t := 9) rfl rfl (by decide) (fun _ => ?_) (fun c => absurd c (by decide))
  refine x_al1 (pc := 9) rfl rfl ?_
  refine g_67_4 (pc := 10) (v := (-1)) rfl rfl h63 ?_
  refine x_if_ne (pc := 13) (t := 32) rfl rfl rfl (fun _ => ?_) (fun c => absurd c (by decide))
  refine x_al1 (pc := 32) rfl rfl ?_
  refine x_al1 (pc := 33) rfl rfl ?_
  refine g_67_4 (pc := 34) (v := (-1)) rfl rfl h63 ?_
  refine x_if_le (pc := 37) (t := 49) rfl rfl rfl (fun _ => ?_) (fun c => absurd (by decide) c)
  refine x_al1 (pc := 49) rfl rfl ?_
  refine g_67_4 (pc := 50) (v := (-1)) rfl rfl h63 ?_
  refine p_67_4 (pc := 53) rfl rfl ?_
  refine x_al1 (pc := 56) rfl rfl ?_
  refine x_step (pc := 57) (pc' := 58) (st' := [.ref 67, .ref 67]) rfl rfl rfl rfl ?_
  refine g_67_3 (pc := 58) (v := nI w) rfl rfl h62 ?_
  refine x_const (pc := 61) (pc' := 62) (.int (nI 1)) rfl rfl rfl rfl ?_
  refine x_iaddN (pc := 62) (c := w + 1) rfl rfl ?_
  refine p_67_3 (pc := 63) rfl rfl ?_
  refine x_const (pc := 66) (pc' := 67) (.int (nI 1)) rfl rfl rfl rfl ?_
  refine x_ret (pc := 67) rfl rfl ?_
  exact kk _ (Fr_u (Fr_u (Fr_refl _ _) (by decide)) (by decide)) rfl rfl
set_option maxRecDepth 100000 in
set_option maxHeartbeats 4000000 in
theorem k_134_s {w k : Nat} (h61 : I 61 = nI 0) (h63 : I 63 = nI (k + 1)) (hk : k + 1 < 2 ^ 31) (h62 : I 62 = nI w) {Q : mO × mHp → Prop} (kk : ∀ I', Fr [62, 63] I I' → I' 63 = nI k → I' 62 = nI (w + 1) → Q (.inl (some (.int (nI 1))), hS n u I' A J B mk sn L xs X)) : mq 134 0 [some (.ref 67)] [] (hS n u I A J B mk sn L xs X) Q := by
  refine x_al1 (pc := 0) rfl rfl ?_
  refine g_67_2 (pc := 1) (v := nI 0) rfl rfl h61 ?_
  refine x_ifN_eq (pc := 4) (t := 9) rfl rfl (by decide) (fun _ => ?_) (fun c => absurd c (by decide))
  refine x_al1 (pc := 9) rfl rfl ?_
  refine g_67_4 (pc := 10) (v := nI (k + 1)) rfl rfl h63 ?_
  refine x_ifN_ne (pc := 13) (t := 32) rfl rfl (by omega) (fun c13 => ?_) (fun c13 => ?_)
  · refine x_al1 (pc := 32) rfl rfl ?_
    refine x_al1 (pc := 33) rfl rfl ?_
    refine g_67_4 (pc := 34) (v := nI (k + 1)) rfl rfl h63 ?_
    refine x_ifN_le (pc := 37) (t := 49) rfl rfl (by omega) (fun c37 => ?_) (fun c37 => ?_)
    · omega
    · refine x_al1 (pc := 40) rfl rfl ?_
      refine g_67_4 (pc := 41) (v := nI (k + 1)) rfl rfl h63 ?_
      refine x_const (pc := 44) (pc' := 45) (.int (nI 1)) rfl rfl rfl rfl ?_
      refine x_isubV (pc := 45) (v := nI k) rfl ((pk_sub (by omega)).trans rfl) ?_
      refine x_step (pc := 46) (pc' := 53) rfl rfl rfl rfl ?_
      refine p_67_4 (pc := 53) rfl rfl ?_
      refine x_al1 (pc := 56) rfl rfl ?_
      refine x_step (pc := 57) (pc' := 58) (st' := [.ref 67, .ref 67]) rfl rfl rfl rfl ?_
      refine g_67_3 (pc := 58) (v := nI w) rfl rfl h62 ?_
      refine x_const (pc := 61) (pc' := 62) (.int (nI 1)) rfl rfl rfl rfl ?_
      refine x_iaddN (pc := 62) (c := w + 1) rfl rfl ?_
      refine p_67_3 (pc := 63) rfl rfl ?_
      refine x_const (pc := 66) (pc' := 67) (.int (nI 1)) rfl rfl rfl rfl ?_
      refine x_ret (pc := 67) rfl rfl ?_
      exact kk _ (Fr_u (Fr_u (Fr_refl _ _) (by decide)) (by decide)) rfl rfl
  · omega
set_option maxRecDepth 100000 in
set_option maxHeartbeats 4000000 in
theorem k_134 {S : DS} (x : WI) (hM : mD S I A) {Q : mO × mHp → Prop} (k1 : dO (wr1 S x) = false → dO S = false → wr1 S x = dS (dW (dD S) x.1 x.2.1 x.2.2) (dC (wr1 S x)) (dN (wr1 S x)) false → ∀ I', Fr [62, 63] I I' → rgM (wr1 S x) I' → Q (.inl (some (.int (nI 1))), hS n u I' A J B mk sn L xs X)) (k0 : dO (wr1 S x) = true → ∀ I' A', Fr [61, 63, 64, 69, 70] I I' → Fr [55, 56] A A' → mD (wr1 S x) I' A' → Q (.inl (some (.int (nI 0))), hS n u I' A' J B mk sn L xs X)) : mq 134 0 [some (.ref 67)] [] (hS n u I A J B mk sn L xs X) Q := by
  have hc := hM.1.2.1
  have h61 := hM.1.1
  by_cases ho : dO S = true
  · rw [if_pos ho] at h61
    refine k_134_f h61 ?_
    have e := wr1_off x ho
    exact k0 (by rw [e]; exact ho) I A (Fr_refl _ _) (Fr_refl _ _) (by rw [e]; exact hM)
  · rw [if_neg ho] at h61
    have ho' : dO S = false := by
      cases h : dO S
      · rfl
      · exact absurd h ho
    rcases eC : dC S with _ | _ | k
    · rw [eC] at hc
      refine k_134_n h61 hc hM.1.2.2 (fun I1 f1 h1 w1 => ?_)
      have e : wr1 S x = dS (dW (dD S) x.1 x.2.1 x.2.2) none (dN S + 1) false := by
        rw [wr1_on _ ho' (by rw [eC]; simp), eC]
        rfl
      refine k1 (by rw [e]; rfl) ho' (by rw [e]; rfl) I1 f1 ?_
      rw [e]
      exact ⟨(f1 61 (by decide)).trans h61, h1, w1⟩
    · rw [eC] at hc
      refine k_134_x h61 hc.1 (fun I1 A1 f1 g1 h1 w1 m1 => ?_)
      have e := wr1_due x ho' eC
      refine k0 (by rw [e]; rfl) I1 A1 f1 g1 ?_
      rw [e]
      refine ⟨⟨h1, w1, (f1 62 (by decide)).trans hM.1.2.2⟩, ?_, fun _ => m1⟩
      rw [g1 50 (by decide)]
      exact hM.2.1
    · rw [eC] at hc
      refine k_134_s h61 hc.1 hc.2 hM.1.2.2 (fun I1 f1 h1 w1 => ?_)
      have e : wr1 S x = dS (dW (dD S) x.1 x.2.1 x.2.2) (some k) (dN S + 1) false := by
        rw [wr1_on _ ho' (by rw [eC]; simp), eC]
        rfl
      refine k1 (by rw [e]; rfl) ho' (by rw [e]; rfl) I1 f1 ?_
      rw [e]
      exact ⟨(f1 61 (by decide)).trans h61, ⟨h1, Nat.lt_of_succ_lt hc.2⟩, w1⟩
set_option maxRecDepth 100000 in
set_option maxHeartbeats 4000000 in
theorem k_150 {s o : Nat} {S : DS} (hM : mD S I A) (hs : s < 16) (ho : o < 256) {Q : mO × mHp → Prop} (kk : ∀ I' A', Fr [61, 62, 63, 64, 69, 70] I I' → Fr [50, 55, 56] A A' → mD (wr1 S (owW s o)) I' A' → (dO (wr1 S (owW s o)) = false → Fr [62, 63] I I' ∧ Fr [50] A A') → Q (.inl none, hS n u I' A' J B mk sn L xs X)) : mq 150 0 [some (.ref 67), some (.int (nI s)), some (.int (nI o))] [] (hS n u I A J B mk sn L xs X) Q := by
  refine x_al1 (pc := 0) rfl rfl ?_
  refine x_k (pc := 1) rfl rfl rfl ⟨Nat.le_of_ble_eq_true rfl, Nat.le_of_ble_eq_true rfl, Nat.le_of_ble_eq_true rfl⟩ rfl (k_134 (I := I) (A := A) (owW s o) hM (fun o1 o0 e1 I1 f1 h1 => ?_) (fun o1 I1 A1 f1 g1 h1 => ?_))
  · show mq 150 4 [some (.ref 67), some (.int (nI s)), some (.int (nI o))] [.int (nI 1)] (hS n u I1 A J B mk sn L xs X) _
    refine x_ifN_eq (pc := 4) (t := 20) rfl rfl (by decide) (fun c => absurd c (by decide)) (fun _ => ?_)
    refine x_al1 (pc := 7) rfl rfl ?_
    refine g_67_1 (pc := 8) rfl rfl ?_
    refine x_const (pc := 11) (pc' := 14) (.int (nI 128)) rfl rfl rfl rfl ?_
    refine x_il1 (pc := 14) rfl rfl ?_
    refine x_imulN (pc := 15) (c := 128 * s) rfl rfl ?_
    refine x_const (pc := 16) (pc' := 17) (.int (nI 2)) rfl rfl rfl rfl ?_
    refine x_iaddN (pc := 17) (c := (128 * s) + 2) rfl rfl ?_
    refine x_il1 (pc := 18) rfl rfl ?_
    refine as_68 (pc := 19) (q := (128 * s) + 2) rfl rfl (by omega) ?_
    refine x_ret (pc := 20) rfl rfl ?_
    refine kk _ _ (Fr_cons (Fr_refl _ _) f1 (by decide)) (Fr_u (Fr_refl _ _) (by decide)) ⟨h1, ?_, fun q => Bool.noConfusion (o1.symm.trans q)⟩ (fun _ => ⟨f1, Fr_up A 50 _⟩)
    rw [e1]
    show DK (upd (A 50) (128 * s + 2) (nI o)) (dW (dD S) (128 * s + 2) 1 (gB0 [o / 2 ^ 0 % 256]))
    have h2 := DK_put (j := 0) (g := gB0 [o / 2 ^ 0 % 256]) (p := 128 * s + 2) (by rw [dW_0]; exact hM.2.1) (gB0_by (by simp; omega) 0) (by omega)
    have e2 : gB0 [o / 2 ^ 0 % 256] 0 = o := by
      show o / 2 ^ 0 % 256 = o
      rw [Nat.pow_zero, Nat.div_one, Nat.mod_eq_of_lt ho]
    rw [e2] at h2
    exact h2
  · show mq 150 4 [some (.ref 67), some (.int (nI s)), some (.int (nI o))] [.int (nI 0)] (hS n u I1 A1 J B mk sn L xs X) _
    refine x_ifN_eq (pc := 4) (t := 20) rfl rfl (by decide) (fun _ => ?_) (fun c => absurd c (by decide))
    refine x_ret (pc := 20) rfl rfl ?_
    exact kk _ _ (Fr_cons (Fr_refl _ _) f1 (by decide)) (Fr_cons (Fr_refl _ _) g1 (by decide)) h1 (fun q => Bool.noConfusion (o1.symm.trans q))
set_option maxRecDepth 100000 in
set_option maxHeartbeats 4000000 in
theorem l_133i {s f e k d : Nat} {t : List Nat} (hb : ∀ i, gB0 t i < 256) (hs : s < 16) (hd : d ≤ 128) (hf : f ≤ k) (htl : t.length ≤ 600) {Q : mO × mHp → Prop} : ∀ (z j : Nat) {A : Nat → Nat → Int32}, (k + j + z = d) → (Tp I A t) → (DK (A 50) (dW D (128 * s + k) j (fun i => gB0 t (k - f + i)))) → (∀ A', Fr [50] A A' → DK (A' 50) (dW D (128 * s + k) (d - k) (fun i => gB0 t (k - f + i))) → mq 133 104 [some (.ref 67), some (.int (nI s)), some (.int (nI f)), some (.int (nI e)), some (.int (nI k)), some (.int (nI d)), some (.int (nI 1)), some (.int (nI d))] [] (hS n u I A' J B mk sn L xs X) Q) → mq 133 49 [some (.ref 67), some (.int (nI s)), some (.int (nI f)), some (.int (nI e)), some (.int (nI k)), some (.int (nI d)), some (.int (nI 1)), some (.int (nI (k + j)))] [] (hS n u I A J B mk sn L xs X) Q := by
  intro z
  induction z with
  | zero =>
    intro j A hz hT hk kk
    refine x_il2 (pc := 49) rfl rfl ?_
    refine x_il2 (pc := 51) rfl rfl ?_
    refine x_cmpN_ge (pc := 53) (t := 104) rfl rfl (by omega) (by omega) (fun c53 => ?_) (fun c53 => ?_)
    · have hj : k + j = d := by omega
      rw [hj]
      exact kk A (Fr_refl _ _) (by rw [show d - k = j by omega]; exact hk)
    · omega
  | succ z ih =>
    intro j A hz hT hk kk
    refine x_il2 (pc := 49) rfl rfl ?_
    refine x_il2 (pc := 51) rfl rfl ?_
    refine x_cmpN_ge (pc := 53) (t := 104) rfl rfl (by omega) (by omega) (fun c53 => ?_) (fun c53 => ?_)
    · omega
    · refine x_il2 (pc := 56) rfl rfl ?_
      refine x_ifN_eq (pc := 58) (t := 104) rfl rfl (by decide) (fun c => absurd c (by decide)) (fun _ => ?_)
      refine x_al1 (pc := 61) rfl rfl ?_
      refine g_67_1 (pc := 62) rfl rfl ?_
      refine x_const (pc := 65) (pc' := 68) (.int (nI 128)) rfl rfl rfl rfl ?_
      refine x_il1 (pc := 68) rfl rfl ?_
      refine x_imulN (pc := 69) (c := 128 * s) rfl rfl ?_
      refine x_il2 (pc := 70) rfl rfl ?_
      refine x_iaddV (pc := 72) (v := nI (128 * s + k + j)) rfl ((nI_add _ _).trans (congrArg nI (by omega))) ?_
      refine x_il2 (pc := 73) rfl rfl ?_
      refine x_il1 (pc := 75) rfl rfl ?_
      refine x_isubN (pc := 76) rfl ((by omega)) ?_
      refine x_al1 (pc := 77) rfl rfl ?_
      refine g_67_13 (pc := 78) (v := nI t.length) rfl rfl hT.1 ?_
      refine x_cmpN_ge (pc := 81) (t := 96) rfl rfl (by omega) (by omega) (fun c81 => ?_) (fun c81 => ?_)
      · refine x_const (pc := 96) (pc' := 97) (.int (nI 0)) rfl rfl rfl rfl ?_
        refine x_top (y := nI (gB0 t (k - f + j))) (by first | exact congrArg nI (gB0_ge (show t.length ≤ k - f + j by omega)).symm | exact congrArg (fun q => nI (gB0 t q)) (show k + j - f = k - f + j by omega)) ?_
        refine as_68 (pc := 97) (q := 128 * s + k + j) rfl rfl (by omega) ?_
        refine x_iincN (pc := 98) (c := 1) (ml' := [some (.ref 67), some (.int (nI s)), some (.int (nI f)), some (.int (nI e)), some (.int (nI k)), some (.int (nI d)), some (.int (nI 1)), some (.int (nI (k + j + 1)))]) rfl rfl rfl rfl ?_
        refine x_step (pc := 101) (pc' := 49) rfl rfl rfl rfl ?_
        exact ih (j + 1) (A := va_up A 50 (upd (A 50) (128 * s + k + j) (nI (gB0 t (k - f + j))))) (by omega) (Tp_fr hT (Fr_refl [] _) (Fr_up A 50 _) (by decide) (by decide)) (DK_put (g := (fun i => gB0 t (k - f + i))) hk (hb _) (by omega)) (fun A9 g9 h9 => kk A9 (Fr_cons (Fr_u (Fr_refl _ _) (by decide)) g9 (by decide)) h9)
      · refine x_al1 (pc := 84) rfl rfl ?_
        refine g_67_12 (pc := 85) rfl rfl ?_
        refine x_il2 (pc := 88) rfl rfl ?_
        refine x_il1 (pc := 90) rfl rfl ?_
        refine x_isubN (pc := 91) rfl ((by omega)) ?_
        refine al_72 (pc := 92) (q := k + j - f) (v := nI (gB0 t (k + j - f))) rfl rfl (by omega) (hT.2 _ (by omega)) ?_
        refine x_step (pc := 93) (pc' := 97) rfl rfl rfl rfl ?_
        refine x_top (y := nI (gB0 t (k - f + j))) (by first | exact congrArg nI (gB0_ge (show t.length ≤ k - f + j by omega)).symm | exact congrArg (fun q => nI (gB0 t q)) (show k + j - f = k - f + j by omega)) ?_
        refine as_68 (pc := 97) (q := 128 * s + k + j) rfl rfl (by omega) ?_
        refine x_iincN (pc := 98) (c := 1) (ml' := [some (.ref 67), some (.int (nI s)), some (.int (nI f)), some (.int (nI e)), some (.int (nI k)), some (.int (nI d)), some (.int (nI 1)), some (.int (nI (k + j + 1)))]) rfl rfl rfl rfl ?_
        refine x_step (pc := 101) (pc' := 49) rfl rfl rfl rfl ?_
        exact ih (j + 1) (A := va_up A 50 (upd (A 50) (128 * s + k + j) (nI (gB0 t (k - f + j))))) (by omega) (Tp_fr hT (Fr_refl [] _) (Fr_up A 50 _) (by decide) (by decide)) (DK_put (g := (fun i => gB0 t (k - f + i))) hk (hb _) (by omega)) (fun A9 g9 h9 => kk A9 (Fr_cons (Fr_u (Fr_refl _ _) (by decide)) g9 (by decide)) h9)
theorem nK_lt {k e : Nat} (h : k < e) : k < nK k e ∧ nK k e ≤ e := by
  unfold nK
  split <;> omega
set_option maxRecDepth 100000 in
set_option maxHeartbeats 4000000 in
theorem l_133 {s f e : Nat} {t : List Nat} (hb : ∀ i, gB0 t i < 256) (hs : s < 16) (he : e ≤ 128) (htl : t.length ≤ 600) {Q : mO × mHp → Prop} : ∀ (z k : Nat) {w5 w6 w7 : Option Value} {S : DS} {I : Nat → Int32} {A : Nat → Nat → Int32}, (f ≤ k) → (k < e → e ≤ (k / 32 + z) * 32) → (k ≤ 128) → (Tp I A t) → (mD S I A) → (∀ I' A', Fr [61, 62, 63, 64, 69, 70] I I' → Fr [50, 55, 56] A A' → mD (wrs S (spW s f e t z k)) I' A' → (dO (wrs S (spW s f e t z k)) = false → Fr [62, 63] I I' ∧ Fr [50] A A') → Q (.inl none, hS n u I' A' J B mk sn L xs X)) → mq 133 3 [some (.ref 67), some (.int (nI s)), some (.int (nI f)), some (.int (nI e)), some (.int (nI k)), w5, w6, w7] [] (hS n u I A J B mk sn L xs X) Q := by
  intro z
  induction z with
  | zero =>
    intro k w5 w6 w7 S I A hf hz hk9 hT hM kk
    refine x_il2 (pc := 3) rfl rfl ?_
    refine x_il1 (pc := 5) rfl rfl ?_
    refine x_cmpN_ge (pc := 6) (t := 111) rfl rfl (by omega) (by omega) (fun c6 => ?_) (fun c6 => ?_)
    · refine x_ret (pc := 111) rfl rfl ?_
      exact kk I A (Fr_refl _ _) (Fr_refl _ _) hM (fun _ => ⟨Fr_refl _ _, Fr_refl _ _⟩)
    · exact absurd (hz (by omega)) (by omega)
  | succ z ih =>
    intro k w5 w6 w7 S I A hf hz hk9 hT hM kk
    refine x_il2 (pc := 3) rfl rfl ?_
    refine x_il1 (pc := 5) rfl rfl ?_
    refine x_cmpN_ge (pc := 6) (t := 111) rfl rfl (by omega) (by omega) (fun c6 => ?_) (fun c6 => ?_)
    · have ev : wrs S (spW s f e t (z + 1) k) = S := by
        show wrs S (if k < e then _ else _) = _
        rw [if_neg (by omega)]
        rfl
      refine x_ret (pc := 111) rfl rfl ?_
      exact kk I A (Fr_refl _ _) (Fr_refl _ _) (by rw [ev]; exact hM) (fun _ => ⟨Fr_refl _ _, Fr_refl _ _⟩)
    · have c6 : k < e := by omega
      have hKK := nK_lt c6
      have ev : wrs S (spW s f e t (z + 1) k) = wrs (wr1 S (wi (128 * s + k) (nK k e - k) (fun i => gB0 t (k - f + i)))) (spW s f e t z (nK k e)) := by
        show wrs S (if k < e then _ else _) = _
        rw [if_pos c6]
        rfl
      refine x_il2 (pc := 9) rfl rfl ?_
      refine x_const (pc := 11) (pc' := 13) (.int (nI 32)) rfl rfl rfl rfl ?_
      refine x_idivV (pc := 13) (v := nI (k / 32)) rfl (by decide) (pk_div (by omega) (by decide) (by decide)) ?_
      refine x_const (pc := 14) (pc' := 15) (.int (nI 1)) rfl rfl rfl rfl ?_
      refine x_iaddN (pc := 15) (c := (k / 32) + 1) rfl rfl ?_
      refine x_const (pc := 16) (pc' := 18) (.int (nI 32)) rfl rfl rfl rfl ?_
      refine x_imulN (pc := 18) (c := ((k / 32) + 1) * 32) rfl rfl ?_
      refine x_il1 (pc := 19) rfl rfl ?_
      refine x_cmpN_ge (pc := 20) (t := 36) rfl rfl (by omega) (by omega) (fun c20 => ?_) (fun c20 => ?_)
      · refine x_il1 (pc := 36) rfl rfl ?_
        refine x_top (y := nI (nK k e)) (by first | exact congrArg nI (if_neg (show ¬ (k / 32 + 1) * 32 < e by omega)).symm | exact congrArg nI (if_pos (show (k / 32 + 1) * 32 < e by omega)).symm) ?_
        refine x_is2 (pc := 37) (ml' := [some (.ref 67), some (.int (nI s)), some (.int (nI f)), some (.int (nI e)), some (.int (nI k)), some (.int (nI (nK k e))), w6, w7]) rfl rfl ?_
        refine x_al1 (pc := 39) rfl rfl ?_
        refine x_k (pc := 40) rfl rfl rfl ⟨Nat.le_of_ble_eq_true rfl, Nat.le_of_ble_eq_true rfl, Nat.le_of_ble_eq_true rfl⟩ rfl (k_134 (I := I) (A := A) (wi (128 * s + k) (nK k e - k) (fun i => gB0 t (k - f + i))) hM (fun o1 o0 e1 I1 f1 h1 => ?_) (fun o1 I1 A1 f1 g1 h1 => ?_))
        · show mq 133 43 [some (.ref 67), some (.int (nI s)), some (.int (nI f)), some (.int (nI e)), some (.int (nI k)), some (.int (nI (nK k e))), w6, w7] [.int (nI 1)] (hS n u I1 A J B mk sn L xs X) _
          refine x_is2 (pc := 43) (ml' := [some (.ref 67), some (.int (nI s)), some (.int (nI f)), some (.int (nI e)), some (.int (nI k)), some (.int (nI (nK k e))), some (.int (nI 1)), w7]) rfl rfl ?_
          refine x_il2 (pc := 45) rfl rfl ?_
          refine x_is2 (pc := 47) (ml' := [some (.ref 67), some (.int (nI s)), some (.int (nI f)), some (.int (nI e)), some (.int (nI k)), some (.int (nI (nK k e))), some (.int (nI 1)), some (.int (nI k))]) rfl rfl ?_
          refine l_133i (I := I1) (A := A) (D := dD S) (s := s) (f := f) (e := e) (k := k) (d := nK k e) (t := t) hb hs (by omega) hf htl (nK k e - k) 0 (by omega) (Tp_fr hT f1 (Fr_refl [] _) (by decide) (by decide)) (by rw [dW_0]; exact hM.2.1) (fun A2 g2 h2 => ?_)
          refine x_il2 (pc := 104) rfl rfl ?_
          refine x_is2 (pc := 106) (ml' := [some (.ref 67), some (.int (nI s)), some (.int (nI f)), some (.int (nI e)), some (.int (nI (nK k e))), some (.int (nI (nK k e))), some (.int (nI 1)), some (.int (nI (nK k e)))]) rfl rfl ?_
          refine x_step (pc := 108) (pc' := 3) rfl rfl rfl rfl ?_
          have h3 : mD (wr1 S (wi (128 * s + k) (nK k e - k) (fun i => gB0 t (k - f + i)))) I1 A2 := ⟨h1, by rw [e1]; exact h2, fun q => Bool.noConfusion (o1.symm.trans q)⟩
          have F9 : Fr [61, 62, 63, 64, 69, 70] I I1 := (Fr_cons (Fr_refl _ _) f1 (by decide))
          have G9 : Fr [50, 55, 56] A A2 := (Fr_cons (Fr_refl _ _) g2 (by decide))
          refine ih (nK k e) (I := I1) (A := A2) (S := wr1 S (wi (128 * s + k) (nK k e - k) (fun i => gB0 t (k - f + i)))) (by omega) (by unfold nK; split <;> omega) (by omega) (Tp_fr hT F9 G9 (by decide) (by decide)) h3 (fun I8 A8 f8 g8 h8 x8 => kk I8 A8 (Fr_cons F9 f8 (by decide)) (Fr_cons G9 g8 (by decide)) (by rw [ev]; exact h8) (fun q => ⟨Fr_cons f1 (x8 (ev ▸ q)).1 (by decide), Fr_cons g2 (x8 (ev ▸ q)).2 (by decide)⟩))
        · show mq 133 43 [some (.ref 67), some (.int (nI s)), some (.int (nI f)), some (.int (nI e)), some (.int (nI k)), some (.int (nI (nK k e))), w6, w7] [.int (nI 0)] (hS n u I1 A1 J B mk sn L xs X) _
          refine x_is2 (pc := 43) (ml' := [some (.ref 67), some (.int (nI s)), some (.int (nI f)), some (.int (nI e)), some (.int (nI k)), some (.int (nI (nK k e))), some (.int (nI 0)), w7]) rfl rfl ?_
          refine x_il2 (pc := 45) rfl rfl ?_
          refine x_is2 (pc := 47) (ml' := [some (.ref 67), some (.int (nI s)), some (.int (nI f)), some (.int (nI e)), some (.int (nI k)), some (.int (nI (nK k e))), some (.int (nI 0)), some (.int (nI k))]) rfl rfl ?_
          refine x_il2 (pc := 49) rfl rfl ?_
          refine x_il2 (pc := 51) rfl rfl ?_
          refine x_cmpN_ge (pc := 53) (t := 104) rfl rfl (by omega) (by omega) (fun c53 => ?_) (fun c53 => ?_)
          · omega
          · refine x_il2 (pc := 56) rfl rfl ?_
            refine x_ifN_eq (pc := 58) (t := 104) rfl rfl (by decide) (fun _ => ?_) (fun c => absurd c (by decide))
            refine x_il2 (pc := 104) rfl rfl ?_
            refine x_is2 (pc := 106) (ml' := [some (.ref 67), some (.int (nI s)), some (.int (nI f)), some (.int (nI e)), some (.int (nI (nK k e))), some (.int (nI (nK k e))), some (.int (nI 0)), some (.int (nI k))]) rfl rfl ?_
            refine x_step (pc := 108) (pc' := 3) rfl rfl rfl rfl ?_
            have F9 : Fr [61, 62, 63, 64, 69, 70] I I1 := (Fr_cons (Fr_refl _ _) f1 (by decide))
            have G9 : Fr [50, 55, 56] A A1 := (Fr_cons (Fr_refl _ _) g1 (by decide))
            refine ih (nK k e) (I := I1) (A := A1) (S := wr1 S (wi (128 * s + k) (nK k e - k) (fun i => gB0 t (k - f + i)))) (by omega) (by unfold nK; split <;> omega) (by omega) (Tp_fr hT F9 G9 (by decide) (by decide)) h1 (fun I8 A8 f8 g8 h8 x8 => kk I8 A8 (Fr_cons F9 f8 (by decide)) (Fr_cons G9 g8 (by decide)) (by rw [ev]; exact h8) (fun q => absurd (ev ▸ q) (by rw [wrs_off _ o1, o1]; decide)))
      · refine x_il2 (pc := 23) rfl rfl ?_
        refine x_const (pc := 25) (pc' := 27) (.int (nI 32)) rfl rfl rfl rfl ?_
        refine x_idivV (pc := 27) (v := nI (k / 32)) rfl (by decide) (pk_div (by omega) (by decide) (by decide)) ?_
        refine x_const (pc := 28) (pc' := 29) (.int (nI 1)) rfl rfl rfl rfl ?_
        refine x_iaddN (pc := 29) (c := (k / 32) + 1) rfl rfl ?_
        refine x_const (pc := 30) (pc' := 32) (.int (nI 32)) rfl rfl rfl rfl ?_
        refine x_imulN (pc := 32) (c := ((k / 32) + 1) * 32) rfl rfl ?_
        refine x_step (pc := 33) (pc' := 37) rfl rfl rfl rfl ?_
        refine x_top (y := nI (nK k e)) (by first | exact congrArg nI (if_neg (show ¬ (k / 32 + 1) * 32 < e by omega)).symm | exact congrArg nI (if_pos (show (k / 32 + 1) * 32 < e by omega)).symm) ?_
        refine x_is2 (pc := 37) (ml' := [some (.ref 67), some (.int (nI s)), some (.int (nI f)), some (.int (nI e)), some (.int (nI k)), some (.int (nI (nK k e))), w6, w7]) rfl rfl ?_
        refine x_al1 (pc := 39) rfl rfl ?_
        refine x_k (pc := 40) rfl rfl rfl ⟨Nat.le_of_ble_eq_true rfl, Nat.le_of_ble_eq_true rfl, Nat.le_of_ble_eq_true rfl⟩ rfl (k_134 (I := I) (A := A) (wi (128 * s + k) (nK k e - k) (fun i => gB0 t (k - f + i))) hM (fun o1 o0 e1 I1 f1 h1 => ?_) (fun o1 I1 A1 f1 g1 h1 => ?_))
        · show mq 133 43 [some (.ref 67), some (.int (nI s)), some (.int (nI f)), some (.int (nI e)), some (.int (nI k)), some (.int (nI (nK k e))), w6, w7] [.int (nI 1)] (hS n u I1 A J B mk sn L xs X) _
          refine x_is2 (pc := 43) (ml' := [some (.ref 67), some (.int (nI s)), some (.int (nI f)), some (.int (nI e)), some (.int (nI k)), some (.int (nI (nK k e))), some (.int (nI 1)), w7]) rfl rfl ?_
          refine x_il2 (pc := 45) rfl rfl ?_
          refine x_is2 (pc := 47) (ml' := [some (.ref 67), some (.int (nI s)), some (.int (nI f)), some (.int (nI e)), some (.int (nI k)), some (.int (nI (nK k e))), some (.int (nI 1)), some (.int (nI k))]) rfl rfl ?_
          refine l_133i (I := I1) (A := A) (D := dD S) (s := s) (f := f) (e := e) (k := k) (d := nK k e) (t := t) hb hs (by omega) hf htl (nK k e - k) 0 (by omega) (Tp_fr hT f1 (Fr_refl [] _) (by decide) (by decide)) (by rw [dW_0]; exact hM.2.1) (fun A2 g2 h2 => ?_)
          refine x_il2 (pc := 104) rfl rfl ?_
          refine x_is2 (pc := 106) (ml' := [some (.ref 67), some (.int (nI s)), some (.int (nI f)), some (.int (nI e)), some (.int (nI (nK k e))), some (.int (nI (nK k e))), some (.int (nI 1)), some (.int (nI (nK k e)))]) rfl rfl ?_
          refine x_step (pc := 108) (pc' := 3) rfl rfl rfl rfl ?_
          have h3 : mD (wr1 S (wi (128 * s + k) (nK k e - k) (fun i => gB0 t (k - f + i)))) I1 A2 := ⟨h1, by rw [e1]; exact h2, fun q => Bool.noConfusion (o1.symm.trans q)⟩
          have F9 : Fr [61, 62, 63, 64, 69, 70] I I1 := (Fr_cons (Fr_refl _ _) f1 (by decide))
          have G9 : Fr [50, 55, 56] A A2 := (Fr_cons (Fr_refl _ _) g2 (by decide))
          refine ih (nK k e) (I := I1) (A := A2) (S := wr1 S (wi (128 * s + k) (nK k e - k) (fun i => gB0 t (k - f + i)))) (by omega) (by unfold nK; split <;> omega) (by omega) (Tp_fr hT F9 G9 (by decide) (by decide)) h3 (fun I8 A8 f8 g8 h8 x8 => kk I8 A8 (Fr_cons F9 f8 (by decide)) (Fr_cons G9 g8 (by decide)) (by rw [ev]; exact h8) (fun q => ⟨Fr_cons f1 (x8 (ev ▸ q)).1 (by decide), Fr_cons g2 (x8 (ev ▸ q)).2 (by decide)⟩))
        · show mq 133 43 [some (.ref 67), some (.int (nI s)), some (.int (nI f)), some (.int (nI e)), some (.int (nI k)), some (.int (nI (nK k e))), w6, w7] [.int (nI 0)] (hS n u I1 A1 J B mk sn L xs X) _
          refine x_is2 (pc := 43) (ml' := [some (.ref 67), some (.int (nI s)), some (.int (nI f)), some (.int (nI e)), some (.int (nI k)), some (.int (nI (nK k e))), some (.int (nI 0)), w7]) rfl rfl ?_
          refine x_il2 (pc := 45) rfl rfl ?_
          refine x_is2 (pc := 47) (ml' := [some (.ref 67), some (.int (nI s)), some (.int (nI f)), some (.int (nI e)), some (.int (nI k)), some (.int (nI (nK k e))), some (.int (nI 0)), some (.int (nI k))]) rfl rfl ?_
          refine x_il2 (pc := 49) rfl rfl ?_
          refine x_il2 (pc := 51) rfl rfl ?_
          refine x_cmpN_ge (pc := 53) (t := 104) rfl rfl (by omega) (by omega) (fun c53 => ?_) (fun c53 => ?_)
          · omega
          · refine x_il2 (pc := 56) rfl rfl ?_
            refine x_ifN_eq (pc := 58) (t := 104) rfl rfl (by decide) (fun _ => ?_) (fun c => absurd c (by decide))
            refine x_il2 (pc := 104) rfl rfl ?_
            refine x_is2 (pc := 106) (ml' := [some (.ref 67), some (.int (nI s)), some (.int (nI f)), some (.int (nI e)), some (.int (nI (nK k e))), some (.int (nI (nK k e))), some (.int (nI 0)), some (.int (nI k))]) rfl rfl ?_
            refine x_step (pc := 108) (pc' := 3) rfl rfl rfl rfl ?_
            have F9 : Fr [61, 62, 63, 64, 69, 70] I I1 := (Fr_cons (Fr_refl _ _) f1 (by decide))
            have G9 : Fr [50, 55, 56] A A1 := (Fr_cons (Fr_refl _ _) g1 (by decide))
            refine ih (nK k e) (I := I1) (A := A1) (S := wr1 S (wi (128 * s + k) (nK k e - k) (fun i => gB0 t (k - f + i)))) (by omega) (by unfold nK; split <;> omega) (by omega) (Tp_fr hT F9 G9 (by decide) (by decide)) h1 (fun I8 A8 f8 g8 h8 x8 => kk I8 A8 (Fr_cons F9 f8 (by decide)) (Fr_cons G9 g8 (by decide)) (by rw [ev]; exact h8) (fun q => absurd (ev ▸ q) (by rw [wrs_off _ o1, o1]; decide)))
set_option maxRecDepth 100000 in
set_option maxHeartbeats 4000000 in
theorem k_133 {s f e : Nat} {t : List Nat} {S : DS} (hM : mD S I A) (hT : Tp I A t) (hb : ∀ i, gB0 t i < 256) (hs : s < 16) (he : e ≤ 128) (hfe : f ≤ e) (htl : t.length ≤ 600) {Q : mO × mHp → Prop} (kk : ∀ I' A', Fr [61, 62, 63, 64, 69, 70] I I' → Fr [50, 55, 56] A A' → mD (wrs S (spW s f e t 4 f)) I' A' → (dO (wrs S (spW s f e t 4 f)) = false → Fr [62, 63] I I' ∧ Fr [50] A A') → Q (.inl none, hS n u I' A' J B mk sn L xs X)) : mq 133 0 [some (.ref 67), some (.int (nI s)), some (.int (nI f)), some (.int (nI e)), none, none, none, none] [] (hS n u I A J B mk sn L xs X) Q := by
  refine x_il1 (pc := 0) rfl rfl ?_
  refine x_is2 (pc := 1) (ml' := [some (.ref 67), some (.int (nI s)), some (.int (nI f)), some (.int (nI e)), some (.int (nI f)), none, none, none]) rfl rfl ?_
  exact l_133 hb hs he htl 4 f (Nat.le_refl f) (fun q => by omega) (by omega) hT hM kk
end S50
