/-! recover: the model, whole. -/
section S79
variable {n u : Nat} {I : Nat → Int32} {A : Nat → Nat → Int32} {J : Int64} {B : Nat → Int64} {mk sn L : Nat} {xs : Nat → Int32} {X : Nat → mC} {D : Nat → Nat} 
set_option maxRecDepth 100000 in
set_option maxHeartbeats 4000000 in
theorem l_154q {v : Int32} {s : Nat} (hs : s < 16) {Q : mO × mHp → Prop} : ∀ (z q : Nat) (w4 : Option Value) {S : DS} {I : Nat → Int32} {A : Nat → Nat → Int32}, (q + z = s) → (mD S I A) → (NC S) → (HB (dD S)) → (∀ I' A' w', Fr [62, 63] I I' → Fr [50] A A' → mD (mt1 s z q S) I' A' → mq 154 134 [some (.ref 67), some (.int v), some (.int (nI s)), some (.int (nI s)), w'] [] (hS n u I' A' J B mk sn L xs X) Q) → mq 154 34 [some (.ref 67), some (.int v), some (.int (nI s)), some (.int (nI q)), w4] [] (hS n u I A J B mk sn L xs X) Q := by
  intro z
  induction z with
  | zero =>
    intro q w4 S I A hz hM hNC hB kk
    refine x_il1 (pc := 34) rfl rfl ?_
    refine x_il1 (pc := 35) rfl rfl ?_
    refine x_cmpN_ge (pc := 36) (t := 134) rfl rfl (by omega) (by omega) (fun c36 => ?_) (fun c36 => ?_)
    · rw [show q = s by omega]
      rw [show q = s by omega] at kk
      exact kk I A w4 (Fr_refl _ _) (Fr_refl _ _) hM
    · omega
  | succ z ih =>
    intro q w4 S I A hz hM hNC hB kk
    have d1 := hM.2.1.2.1 (128 * s + 2)
    have d2 := hM.2.1.2.1 (128 * q + 2)
    have d3 := hM.2.1.2.1 (128 * s + 3)
    have d4 := hM.2.1.2.1 (128 * q + 3)
    have u1 : oB (dD S) s = dD S (128 * s + 2) := rfl
    have u2 : oB (dD S) q = dD S (128 * q + 2) := rfl
    have u3 : gB (dD S) s = dD S (128 * s + 3) := rfl
    have u4 : gB (dD S) q = dD S (128 * q + 3) := rfl
    refine x_il1 (pc := 34) rfl rfl ?_
    refine x_il1 (pc := 35) rfl rfl ?_
    refine x_cmpN_ge (pc := 36) (t := 134) rfl rfl (by omega) (by omega) (fun c36 => ?_) (fun c36 => ?_)
    · omega
    · refine x_al1 (pc := 39) rfl rfl ?_
      refine x_il1 (pc := 40) rfl rfl ?_
      refine x_k (pc := 41) rfl rfl rfl ⟨Nat.le_of_ble_eq_true rfl, Nat.le_of_ble_eq_true rfl, Nat.le_of_ble_eq_true rfl⟩ rfl (mq_k (c_118 hM.2.1 (by omega)) ?_)
      show mq 154 44 [some (.ref 67), some (.int v), some (.int (nI s)), some (.int (nI q)), w4] [.int (nI (oB (dD S) s))] (hS n u I A J B mk sn L xs X) _
      refine x_ifN_le (pc := 44) (t := 77) rfl rfl (by omega) (fun c44 => ?_) (fun c44 => ?_)
      · have e : tw (dD S) s q = false := decide_eq_false (fun w => by omega)
        refine x_const (pc := 77) (pc' := 78) (.int (nI 0)) rfl rfl rfl rfl ?_
        refine x_is2 (pc := 78) (ml' := [some (.ref 67), some (.int v), some (.int (nI s)), some (.int (nI q)), some (.int (nI 0))]) rfl rfl ?_
        refine x_il2 (pc := 80) rfl rfl ?_
        refine x_ifN_eq (pc := 82) (t := 128) rfl rfl (by decide) (fun _ => ?_) (fun c => absurd c (by decide))
        refine x_iincN (pc := 128) (c := 1) (ml' := [some (.ref 67), some (.int v), some (.int (nI s)), some (.int (nI (q + 1))), some (.int (nI 0))]) rfl rfl rfl rfl ?_
        refine x_step (pc := 131) (pc' := 34) rfl rfl rfl rfl ?_
        have e2 : mt1 s (z + 1) q S = mt1 s z (q + 1) S := congrArg (mt1 s z (q + 1)) (if_neg (by rw [e]; decide))
        rw [e2] at kk
        exact ih (q + 1) _ (S := S) (I := I) (A := A) (by omega) hM hNC hB kk
      · refine x_al1 (pc := 47) rfl rfl ?_
        refine x_il1 (pc := 48) rfl rfl ?_
        refine x_k (pc := 49) rfl rfl rfl ⟨Nat.le_of_ble_eq_true rfl, Nat.le_of_ble_eq_true rfl, Nat.le_of_ble_eq_true rfl⟩ rfl (mq_k (c_118 hM.2.1 (by omega)) ?_)
        show mq 154 52 [some (.ref 67), some (.int v), some (.int (nI s)), some (.int (nI q)), w4] [.int (nI (oB (dD S) q))] (hS n u I A J B mk sn L xs X) _
        refine x_al1 (pc := 52) rfl rfl ?_
        refine x_il1 (pc := 53) rfl rfl ?_
        refine x_k (pc := 54) rfl rfl rfl ⟨Nat.le_of_ble_eq_true rfl, Nat.le_of_ble_eq_true rfl, Nat.le_of_ble_eq_true rfl⟩ rfl (mq_k (c_118 hM.2.1 (by omega)) ?_)
        show mq 154 57 [some (.ref 67), some (.int v), some (.int (nI s)), some (.int (nI q)), w4] [.int (nI (oB (dD S) s)), .int (nI (oB (dD S) q))] (hS n u I A J B mk sn L xs X) _
        refine x_cmpN_ne (pc := 57) (t := 77) rfl rfl (by omega) (by omega) (fun c57 => ?_) (fun c57 => ?_)
        · have e : tw (dD S) s q = false := decide_eq_false (fun w => c57 w.2.1)
          refine x_const (pc := 77) (pc' := 78) (.int (nI 0)) rfl rfl rfl rfl ?_
          refine x_is2 (pc := 78) (ml' := [some (.ref 67), some (.int v), some (.int (nI s)), some (.int (nI q)), some (.int (nI 0))]) rfl rfl ?_
          refine x_il2 (pc := 80) rfl rfl ?_
          refine x_ifN_eq (pc := 82) (t := 128) rfl rfl (by decide) (fun _ => ?_) (fun c => absurd c (by decide))
          refine x_iincN (pc := 128) (c := 1) (ml' := [some (.ref 67), some (.int v), some (.int (nI s)), some (.int (nI (q + 1))), some (.int (nI 0))]) rfl rfl rfl rfl ?_
          refine x_step (pc := 131) (pc' := 34) rfl rfl rfl rfl ?_
          have e2 : mt1 s (z + 1) q S = mt1 s z (q + 1) S := congrArg (mt1 s z (q + 1)) (if_neg (by rw [e]; decide))
          rw [e2] at kk
          exact ih (q + 1) _ (S := S) (I := I) (A := A) (by omega) hM hNC hB kk
        · refine x_al1 (pc := 60) rfl rfl ?_
          refine x_il1 (pc := 61) rfl rfl ?_
          refine x_k (pc := 62) rfl rfl rfl ⟨Nat.le_of_ble_eq_true rfl, Nat.le_of_ble_eq_true rfl, Nat.le_of_ble_eq_true rfl⟩ rfl (mq_k (c_120 hM.2.1 (by omega)) ?_)
          show mq 154 65 [some (.ref 67), some (.int v), some (.int (nI s)), some (.int (nI q)), w4] [.int (nI (bB (dD S) q))] (hS n u I A J B mk sn L xs X) _
          refine x_al1 (pc := 65) rfl rfl ?_
          refine x_il1 (pc := 66) rfl rfl ?_
          refine x_k (pc := 67) rfl rfl rfl ⟨Nat.le_of_ble_eq_true rfl, Nat.le_of_ble_eq_true rfl, Nat.le_of_ble_eq_true rfl⟩ rfl (mq_k (c_120 hM.2.1 (by omega)) ?_)
          show mq 154 70 [some (.ref 67), some (.int v), some (.int (nI s)), some (.int (nI q)), w4] [.int (nI (bB (dD S) s)), .int (nI (bB (dD S) q))] (hS n u I A J B mk sn L xs X) _
          refine x_cmpN_ne (pc := 70) (t := 77) rfl rfl (by have := hB q (by omega) (by omega); omega) (by have := hB s (by omega) (by omega); omega) (fun c70 => ?_) (fun c70 => ?_)
          · have e : tw (dD S) s q = false := decide_eq_false (fun w => c70 w.2.2)
            refine x_const (pc := 77) (pc' := 78) (.int (nI 0)) rfl rfl rfl rfl ?_
            refine x_is2 (pc := 78) (ml' := [some (.ref 67), some (.int v), some (.int (nI s)), some (.int (nI q)), some (.int (nI 0))]) rfl rfl ?_
            refine x_il2 (pc := 80) rfl rfl ?_
            refine x_ifN_eq (pc := 82) (t := 128) rfl rfl (by decide) (fun _ => ?_) (fun c => absurd c (by decide))
            refine x_iincN (pc := 128) (c := 1) (ml' := [some (.ref 67), some (.int v), some (.int (nI s)), some (.int (nI (q + 1))), some (.int (nI 0))]) rfl rfl rfl rfl ?_
            refine x_step (pc := 131) (pc' := 34) rfl rfl rfl rfl ?_
            have e2 : mt1 s (z + 1) q S = mt1 s z (q + 1) S := congrArg (mt1 s z (q + 1)) (if_neg (by rw [e]; decide))
            rw [e2] at kk
            exact ih (q + 1) _ (S := S) (I := I) (A := A) (by omega) hM hNC hB kk
          · have e : tw (dD S) s q = true := decide_eq_true ⟨by omega, c57, c70⟩
            refine x_const (pc := 73) (pc' := 74) (.int (nI 1)) rfl rfl rfl rfl ?_
            refine x_step (pc := 74) (pc' := 78) rfl rfl rfl rfl ?_
            refine x_is2 (pc := 78) (ml' := [some (.ref 67), some (.int v), some (.int (nI s)), some (.int (nI q)), some (.int (nI 1))]) rfl rfl ?_
            refine x_il2 (pc := 80) rfl rfl ?_
            refine x_ifN_eq (pc := 82) (t := 128) rfl rfl (by decide) (fun c => absurd c (by decide)) (fun _ => ?_)
            refine x_al1 (pc := 85) rfl rfl ?_
            refine x_al1 (pc := 86) rfl rfl ?_
            refine g_67_1 (pc := 87) rfl rfl ?_
            refine x_const (pc := 90) (pc' := 93) (.int (nI 128)) rfl rfl rfl rfl ?_
            refine x_il1 (pc := 93) rfl rfl ?_
            refine x_imulN (pc := 94) (c := 128 * s) rfl rfl ?_
            refine x_const (pc := 95) (pc' := 96) (.int (nI 3)) rfl rfl rfl rfl ?_
            refine x_iaddN (pc := 96) (c := (128 * s) + 3) rfl rfl ?_
            refine al_68 (pc := 97) (q := 128 * s + 3) (v := nI (gB (dD S) s)) rfl rfl (by omega) (show A 50 (128 * s + 3) = nI (gB (dD S) s) by rw [hM.2.1.1]; rfl) ?_
            refine x_al1 (pc := 98) rfl rfl ?_
            refine g_67_1 (pc := 99) rfl rfl ?_
            refine x_const (pc := 102) (pc' := 105) (.int (nI 128)) rfl rfl rfl rfl ?_
            refine x_il1 (pc := 105) rfl rfl ?_
            refine x_imulN (pc := 106) (c := 128 * q) rfl rfl ?_
            refine x_const (pc := 107) (pc' := 108) (.int (nI 3)) rfl rfl rfl rfl ?_
            refine x_iaddN (pc := 108) (c := (128 * q) + 3) rfl rfl ?_
            refine al_68 (pc := 109) (q := 128 * q + 3) (v := nI (gB (dD S) q)) rfl rfl (by omega) (show A 50 (128 * q + 3) = nI (gB (dD S) q) by rw [hM.2.1.1]; rfl) ?_
            refine x_const (pc := 110) (pc' := 111) (.int (nI 1)) rfl rfl rfl rfl ?_
            refine x_iaddN (pc := 111) (c := (gB (dD S) q) + 1) rfl rfl ?_
            refine x_const (pc := 112) (pc' := 115) (.int (nI 255)) rfl rfl rfl rfl ?_
            refine x_iandV (pc := 115) (v := nI ((gB (dD S) q + 1) % 2 ^ 8)) rfl (pk_andN (by omega) 8 (by decide)) ?_
            refine x_cmpN_ne (pc := 116) (t := 123) rfl rfl (by omega) (by omega) (fun c116 => ?_) (fun c116 => ?_)
            · refine x_il1 (pc := 123) rfl rfl ?_
              refine x_top (y := nI (if gB (dD S) s = (gB (dD S) q + 1) % 2 ^ 8 then q else s)) (congrArg nI (by first | exact (if_pos c116).symm | exact (if_neg c116).symm)) ?_
              refine x_const (pc := 124) (pc' := 125) (.int (nI 0)) rfl rfl rfl rfl ?_
              refine x_k (pc := 125) rfl rfl rfl ⟨Nat.le_of_ble_eq_true rfl, Nat.le_of_ble_eq_true rfl, Nat.le_of_ble_eq_true rfl⟩ rfl (k_150 (I := I) (A := A) (S := S) (s := (if gB (dD S) s = (gB (dD S) q + 1) % 2 ^ 8 then q else s)) (o := 0) hM (by split <;> omega) (by decide) (fun I1 A1 f1 g1 h1 x1 => ?_))
              show mq 154 128 [some (.ref 67), some (.int v), some (.int (nI s)), some (.int (nI q)), some (.int (nI 1))] [] (hS n u I1 A1 J B mk sn L xs X) _
              refine x_iincN (pc := 128) (c := 1) (ml' := [some (.ref 67), some (.int v), some (.int (nI s)), some (.int (nI (q + 1))), some (.int (nI 1))]) rfl rfl rfl rfl ?_
              refine x_step (pc := 131) (pc' := 34) rfl rfl rfl rfl ?_
              have e2 : mt1 s (z + 1) q S = mt1 s z (q + 1) (wr1 S (owW (if gB (dD S) s = (gB (dD S) q + 1) % 2 ^ 8 then q else s) 0)) := congrArg (mt1 s z (q + 1)) (if_pos e)
              rw [e2] at kk
              have hn1 := NC_wr (owW (if gB (dD S) s = (gB (dD S) q + 1) % 2 ^ 8 then q else s) 0) hNC
              have x2 := x1 hn1.1.1
              exact ih (q + 1) _ (S := wr1 S (owW (if gB (dD S) s = (gB (dD S) q + 1) % 2 ^ 8 then q else s) 0)) (I := I1) (A := A1) (by omega) h1 hn1.1 (by rw [hn1.2.1]; exact HB_ow hB) (fun I2 A2 w2 f2 g2 h2 => kk I2 A2 w2 (Fr_cons x2.1 f2 (by decide)) (Fr_cons x2.2 g2 (by decide)) h2)
            · refine x_il1 (pc := 119) rfl rfl ?_
              refine x_step (pc := 120) (pc' := 124) rfl rfl rfl rfl ?_
              refine x_top (y := nI (if gB (dD S) s = (gB (dD S) q + 1) % 2 ^ 8 then q else s)) (congrArg nI (by first | exact (if_pos c116).symm | exact (if_neg c116).symm)) ?_
              refine x_const (pc := 124) (pc' := 125) (.int (nI 0)) rfl rfl rfl rfl ?_
              refine x_k (pc := 125) rfl rfl rfl ⟨Nat.le_of_ble_eq_true rfl, Nat.le_of_ble_eq_true rfl, Nat.le_of_ble_eq_true rfl⟩ rfl (k_150 (I := I) (A := A) (S := S) (s := (if gB (dD S) s = (gB (dD S) q + 1) % 2 ^ 8 then q else s)) (o := 0) hM (by split <;> omega) (by decide) (fun I1 A1 f1 g1 h1 x1 => ?_))
              show mq 154 128 [some (.ref 67), some (.int v), some (.int (nI s)), some (.int (nI q)), some (.int (nI 1))] [] (hS n u I1 A1 J B mk sn L xs X) _
              refine x_iincN (pc := 128) (c := 1) (ml' := [some (.ref 67), some (.int v), some (.int (nI s)), some (.int (nI (q + 1))), some (.int (nI 1))]) rfl rfl rfl rfl ?_
              refine x_step (pc := 131) (pc' := 34) rfl rfl rfl rfl ?_
              have e2 : mt1 s (z + 1) q S = mt1 s z (q + 1) (wr1 S (owW (if gB (dD S) s = (gB (dD S) q + 1) % 2 ^ 8 then q else s) 0)) := congrArg (mt1 s z (q + 1)) (if_pos e)
              rw [e2] at kk
              have hn1 := NC_wr (owW (if gB (dD S) s = (gB (dD S) q + 1) % 2 ^ 8 then q else s) 0) hNC
              have x2 := x1 hn1.1.1
              exact ih (q + 1) _ (S := wr1 S (owW (if gB (dD S) s = (gB (dD S) q + 1) % 2 ^ 8 then q else s) 0)) (I := I1) (A := A1) (by omega) h1 hn1.1 (by rw [hn1.2.1]; exact HB_ow hB) (fun I2 A2 w2 f2 g2 h2 => kk I2 A2 w2 (Fr_cons x2.1 f2 (by decide)) (Fr_cons x2.2 g2 (by decide)) h2)
set_option maxRecDepth 100000 in
set_option maxHeartbeats 4000000 in
theorem l_154s {v : Int32} {Q : mO × mHp → Prop} : ∀ (z s : Nat) (w3 w4 : Option Value) {S : DS} {I : Nat → Int32} {A : Nat → Nat → Int32}, (s + z = 16) → (mD S I A) → (NC S) → (HB (dD S)) → (∀ I' A' w3' w4', Fr [62, 63] I I' → Fr [50] A A' → mD (mtA z s S) I' A' → mq 154 140 [some (.ref 67), some (.int v), some (.int (nI 16)), w3', w4'] [] (hS n u I' A' J B mk sn L xs X) Q) → mq 154 26 [some (.ref 67), some (.int v), some (.int (nI s)), w3, w4] [] (hS n u I A J B mk sn L xs X) Q := by
  intro z
  induction z with
  | zero =>
    intro s w3 w4 S I A hz hM hNC hB kk
    refine x_il1 (pc := 26) rfl rfl ?_
    refine x_const (pc := 27) (pc' := 29) (.int (nI 16)) rfl rfl rfl rfl ?_
    refine x_cmpN_ge (pc := 29) (t := 140) rfl rfl (by omega) (by omega) (fun c29 => ?_) (fun c29 => ?_)
    · rw [show s = 16 by omega]
      rw [show s = 16 by omega] at kk
      exact kk I A w3 w4 (Fr_refl _ _) (Fr_refl _ _) hM
    · omega
  | succ z ih =>
    intro s w3 w4 S I A hz hM hNC hB kk
    refine x_il1 (pc := 26) rfl rfl ?_
    refine x_const (pc := 27) (pc' := 29) (.int (nI 16)) rfl rfl rfl rfl ?_
    refine x_cmpN_ge (pc := 29) (t := 140) rfl rfl (by omega) (by omega) (fun c29 => ?_) (fun c29 => ?_)
    · omega
    · refine x_const (pc := 32) (pc' := 33) (.int (nI 0)) rfl rfl rfl rfl ?_
      refine x_is1 (pc := 33) (ml' := [some (.ref 67), some (.int v), some (.int (nI s)), some (.int (nI 0)), w4]) rfl rfl ?_
      refine l_154q (I := I) (A := A) (S := S) (s := s) (by omega) s 0 w4 (Nat.zero_add _) hM hNC hB (fun I1 A1 w f1 g1 h1 => ?_)
      refine x_iincN (pc := 134) (c := 1) (ml' := [some (.ref 67), some (.int v), some (.int (nI (s + 1))), some (.int (nI s)), w]) rfl rfl rfl rfl ?_
      refine x_step (pc := 137) (pc' := 26) rfl rfl rfl rfl ?_
      exact ih (s + 1) _ _ (S := mt1 s s 0 S) (I := I1) (A := A1) (by omega) h1 (mt1_ok s 0 hNC hB).1 (mt1_ok s 0 hNC hB).2 (fun I2 A2 w2 w5 f2 g2 h2 => kk I2 A2 w2 w5 (Fr_cons f1 f2 (by decide)) (Fr_cons g1 g2 (by decide)) h2)
set_option maxRecDepth 100000 in
set_option maxHeartbeats 4000000 in
theorem k_154 {S : DS} (hm2 : I 62 = nI (dN S)) (hmk0 : DK (A 50) (dD S)) (hB : HB (dD S)) {F : Nat → Nat → Nat} {bc c N : Nat → Nat} (hW : ∀ l, l < 4 → WL (dD (mtA 16 0 (S00 S))) l (F l) bc (c l) (N l)) {Q : mO × mHp → Prop} (kk : ∀ I' A', Fr [60, 61, 62, 63, 64, 65, 66, 67, 69, 70, 71] I I' → Fr [50, 52, 55, 56] A A' → mD (mtA 16 0 (S00 S)) I' A' → I' 60 = nI 0 → I' 64 = nI 0 → I' 69 = nI 0 → I' 70 = nI 0 → (∀ l, l < 4 → KM l A' (lnL (dD (mtA 16 0 (S00 S))) (F l) bc (c l) 0 a00)) → CMt A' (cmL (dD (mtA 16 0 (S00 S))) (F 3) bc (c 3) 0 (fun _ => -1)) → Q (.inl (some (.int (nI (dN (mtA 16 0 (S00 S))) - nI (dN S)))), hS n u I' A' J B mk sn L xs X)) : mq 154 0 [some (.ref 67), none, none, none, none] [] (hS n u I A J B mk sn L xs X) Q := by
  refine x_al1 (pc := 0) rfl rfl ?_
  refine x_const (pc := 1) (pc' := 2) (.int (nI 0)) rfl rfl rfl rfl ?_
  refine p_67_0 (pc := 2) rfl rfl ?_
  refine x_al1 (pc := 5) rfl rfl ?_
  refine g_67_3 (pc := 6) (v := nI (dN S)) rfl rfl hm2 ?_
  refine x_is1 (pc := 9) (ml' := [some (.ref 67), some (.int (nI (dN S))), none, none, none]) rfl rfl ?_
  refine x_al1 (pc := 10) rfl rfl ?_
  refine x_const (pc := 11) (pc' := 12) (.int (nI 0)) rfl rfl rfl rfl ?_
  refine p_67_2 (pc := 12) rfl rfl (by decide) ?_
  refine x_al1 (pc := 15) rfl rfl ?_
  refine x_const (pc := 16) (pc' := 17) (.int (-1)) rfl rfl rfl rfl ?_
  refine p_67_4 (pc := 17) rfl rfl ?_
  refine x_al1 (pc := 20) rfl rfl ?_
  refine x_k (pc := 21) rfl rfl rfl ⟨Nat.le_of_ble_eq_true rfl, Nat.le_of_ble_eq_true rfl, Nat.le_of_ble_eq_true rfl⟩ rfl (k_135 (I := va_up (va_up (va_up I 60 (nI 0)) 61 (nI 0)) 63 (-1)) (A := A) (fun I1 A1 f1 g1 h1 => ?_))
  show mq 154 24 [some (.ref 67), some (.int (nI (dN S))), none, none, none] [] (hS n u I1 A1 J B mk sn L xs X) _
  refine x_const (pc := 24) (pc' := 25) (.int (nI 0)) rfl rfl rfl rfl ?_
  refine x_is1 (pc := 25) (ml' := [some (.ref 67), some (.int (nI (dN S))), some (.int (nI 0)), none, none]) rfl rfl ?_
  have M1 : mD (S00 S) I1 A1 := ⟨⟨(f1 61 (by decide)).trans rfl, (f1 63 (by decide)).trans rfl, (f1 62 (by decide)).trans hm2⟩, (by rw [g1 50 (by decide)]; exact hmk0), fun q => Bool.noConfusion q⟩
  have hNC : NC (S00 S) := ⟨rfl, rfl⟩
  have hok := mtA_ok 16 0 hNC hB
  refine l_154s (I := I1) (A := A1) (S := S00 S) 16 0 none none (Nat.zero_add _) M1 hNC hB (fun I2 A2 w3 w4 f2 g2 h2 => ?_)
  have h61 : I2 61 = nI 0 := by
    rw [h2.1.1, hok.1.1]
    rfl
  have K2 : ∀ l, l < 4 → KM l A2 a00 := fun l hl p hp => ⟨(by rw [g2 55 (by decide)]; exact h1.2.2.2.1 _ (by omega)), fun q => absurd rfl q⟩
  have C2 : CMt A2 (fun _ => -1) := fun k hk => by
    rw [g2 56 (by decide), h1.2.2.2.2 k hk]
    show nI 0 = (-1 : Int32) + 1
    decide
  refine x_const (pc := 140) (pc' := 141) (.int (nI 0)) rfl rfl rfl rfl ?_
  refine x_is1 (pc := 141) (ml' := [some (.ref 67), some (.int (nI (dN S))), some (.int (nI 0)), w3, w4]) rfl rfl ?_
  refine x_il1 (pc := 142) rfl rfl ?_
  refine x_const (pc := 143) (pc' := 144) (.int (nI 4)) rfl rfl rfl rfl ?_
  refine x_cmpN_ge (pc := 144) (t := 158) rfl rfl (by decide) (by decide) (fun c => absurd c (by decide)) (fun _ => ?_)
  refine x_al1 (pc := 147) rfl rfl ?_
  refine x_il1 (pc := 148) rfl rfl ?_
  refine x_k (pc := 149) rfl rfl rfl ⟨Nat.le_of_ble_eq_true rfl, Nat.le_of_ble_eq_true rfl, Nat.le_of_ble_eq_true rfl⟩ rfl (k_155_l (I := I2) (A := A2) (D := (dD (mtA 16 0 (S00 S)))) (l := 0) (f := F 0) (bc := bc) (cn := c 0) (a := a00) h2.2.1 (by decide) (hW 0 (by decide)).1 (hW 0 (by decide)).2.1 h61 (K2 0 (by decide)) (fun I3 A3 f3 g3 o3 k3 => ?_))
  show mq 154 152 [some (.ref 67), some (.int (nI (dN S))), some (.int (nI 0)), w3, w4] [] (hS n u I3 A3 J B mk sn L xs X) _
  refine x_iincN (pc := 152) (c := 1) (ml' := [some (.ref 67), some (.int (nI (dN S))), some (.int (nI 1)), w3, w4]) rfl rfl rfl rfl ?_
  refine x_step (pc := 155) (pc' := 142) rfl rfl rfl rfl ?_
  refine x_il1 (pc := 142) rfl rfl ?_
  refine x_const (pc := 143) (pc' := 144) (.int (nI 4)) rfl rfl rfl rfl ?_
  refine x_cmpN_ge (pc := 144) (t := 158) rfl rfl (by decide) (by decide) (fun c => absurd c (by decide)) (fun _ => ?_)
  refine x_al1 (pc := 147) rfl rfl ?_
  refine x_il1 (pc := 148) rfl rfl ?_
  refine x_k (pc := 149) rfl rfl rfl ⟨Nat.le_of_ble_eq_true rfl, Nat.le_of_ble_eq_true rfl, Nat.le_of_ble_eq_true rfl⟩ rfl (k_155_l (I := I3) (A := A3) (D := (dD (mtA 16 0 (S00 S)))) (l := 1) (f := F 1) (bc := bc) (cn := c 1) (a := a00) (by rw [g3 50 (by decide)]; exact h2.2.1) (by decide) (hW 1 (by decide)).1 (hW 1 (by decide)).2.1 ((f3 61 (by decide)).trans h61) (KM_eq (K2 1 (by decide)) (fun x h8 h9 => o3 x (by omega))) (fun I4 A4 f4 g4 o4 k4 => ?_))
  show mq 154 152 [some (.ref 67), some (.int (nI (dN S))), some (.int (nI 1)), w3, w4] [] (hS n u I4 A4 J B mk sn L xs X) _
  refine x_iincN (pc := 152) (c := 1) (ml' := [some (.ref 67), some (.int (nI (dN S))), some (.int (nI 2)), w3, w4]) rfl rfl rfl rfl ?_
  refine x_step (pc := 155) (pc' := 142) rfl rfl rfl rfl ?_
  refine x_il1 (pc := 142) rfl rfl ?_
  refine x_const (pc := 143) (pc' := 144) (.int (nI 4)) rfl rfl rfl rfl ?_
  refine x_cmpN_ge (pc := 144) (t := 158) rfl rfl (by decide) (by decide) (fun c => absurd c (by decide)) (fun _ => ?_)
  refine x_al1 (pc := 147) rfl rfl ?_
  refine x_il1 (pc := 148) rfl rfl ?_
  refine x_k (pc := 149) rfl rfl rfl ⟨Nat.le_of_ble_eq_true rfl, Nat.le_of_ble_eq_true rfl, Nat.le_of_ble_eq_true rfl⟩ rfl (k_155_l (I := I4) (A := A4) (D := (dD (mtA 16 0 (S00 S)))) (l := 2) (f := F 2) (bc := bc) (cn := c 2) (a := a00) (by rw [g4 50 (by decide), g3 50 (by decide)]; exact h2.2.1) (by decide) (hW 2 (by decide)).1 (hW 2 (by decide)).2.1 ((f4 61 (by decide)).trans ((f3 61 (by decide)).trans h61)) (KM_eq (KM_eq (K2 2 (by decide)) (fun x h8 h9 => o3 x (by omega))) (fun x h8 h9 => o4 x (by omega))) (fun I5 A5 f5 g5 o5 k5 => ?_))
  show mq 154 152 [some (.ref 67), some (.int (nI (dN S))), some (.int (nI 2)), w3, w4] [] (hS n u I5 A5 J B mk sn L xs X) _
  refine x_iincN (pc := 152) (c := 1) (ml' := [some (.ref 67), some (.int (nI (dN S))), some (.int (nI 3)), w3, w4]) rfl rfl rfl rfl ?_
  refine x_step (pc := 155) (pc' := 142) rfl rfl rfl rfl ?_
  refine x_il1 (pc := 142) rfl rfl ?_
  refine x_const (pc := 143) (pc' := 144) (.int (nI 4)) rfl rfl rfl rfl ?_
  refine x_cmpN_ge (pc := 144) (t := 158) rfl rfl (by decide) (by decide) (fun c => absurd c (by decide)) (fun _ => ?_)
  refine x_al1 (pc := 147) rfl rfl ?_
  refine x_il1 (pc := 148) rfl rfl ?_
  refine x_k (pc := 149) rfl rfl rfl ⟨Nat.le_of_ble_eq_true rfl, Nat.le_of_ble_eq_true rfl, Nat.le_of_ble_eq_true rfl⟩ rfl (k_155_3 (I := I5) (A := A5) (D := (dD (mtA 16 0 (S00 S)))) (f := F 3) (bc := bc) (cn := c 3) (a := a00) (c := fun _ => -1) (by rw [g5 50 (by decide), g4 50 (by decide), g3 50 (by decide)]; exact h2.2.1) (hW 3 (by decide)).1 (hW 3 (by decide)).2.1 (WL_key (hW 3 (by decide))) ((f5 61 (by decide)).trans ((f4 61 (by decide)).trans ((f3 61 (by decide)).trans h61))) (KM_eq (KM_eq (KM_eq (K2 3 (by decide)) (fun x h8 h9 => o3 x (by omega))) (fun x h8 h9 => o4 x (by omega))) (fun x h8 h9 => o5 x (by omega))) (fun k hk => by rw [g5 56 (by decide), g4 56 (by decide), g3 56 (by decide)]; exact C2 k hk) (fun I6 A6 f6 g6 m6 o6 k6 => ?_))
  show mq 154 152 [some (.ref 67), some (.int (nI (dN S))), some (.int (nI 3)), w3, w4] [] (hS n u I6 A6 J B mk sn L xs X) _
  refine x_iincN (pc := 152) (c := 1) (ml' := [some (.ref 67), some (.int (nI (dN S))), some (.int (nI 4)), w3, w4]) rfl rfl rfl rfl ?_
  refine x_step (pc := 155) (pc' := 142) rfl rfl rfl rfl ?_
  refine x_il1 (pc := 142) rfl rfl ?_
  refine x_const (pc := 143) (pc' := 144) (.int (nI 4)) rfl rfl rfl rfl ?_
  refine x_cmpN_ge (pc := 144) (t := 158) rfl rfl (by decide) (by decide) (fun _ => ?_) (fun c => absurd c (by decide))
  refine x_al1 (pc := 158) rfl rfl ?_
  refine g_67_3 (pc := 159) (v := I6 62) rfl rfl rfl ?_
  refine x_top (y := nI (dN (mtA 16 0 (S00 S)))) ((f6 62 (by decide)).trans ((f5 62 (by decide)).trans ((f4 62 (by decide)).trans ((f3 62 (by decide)).trans (h2.1.2.2))))) ?_
  refine x_il1 (pc := 162) rfl rfl ?_
  refine x_isub (pc := 163) rfl rfl ?_
  refine x_ret (pc := 164) rfl rfl ?_
  refine kk I6 A6 (Fr_cons (Fr_cons (Fr_cons (Fr_cons (Fr_cons (Fr_cons (Fr_u (Fr_u (Fr_u (Fr_refl _ _) (by decide)) (by decide)) (by decide)) f1 (by decide)) f2 (by decide)) f3 (by decide)) f4 (by decide)) f5 (by decide)) f6 (by decide)) (Fr_cons (Fr_cons (Fr_cons (Fr_cons (Fr_cons (Fr_cons (Fr_refl _ _) g1 (by decide)) g2 (by decide)) g3 (by decide)) g4 (by decide)) g5 (by decide)) g6 (by decide)) ?_ ?_ ?_ ?_ ?_ (fun l hl => ?_) m6
  · exact mD_on h2 hok.1.1 (show Fr [65, 66, 67, 71] I2 I6 from (Fr_cons (Fr_cons (Fr_cons (Fr_cons (Fr_refl _ I2) f3 (by decide)) f4 (by decide)) f5 (by decide)) f6 (by decide))) (show Fr [52, 55, 56] A2 A6 from (Fr_cons (Fr_cons (Fr_cons (Fr_cons (Fr_refl _ A2) g3 (by decide)) g4 (by decide)) g5 (by decide)) g6 (by decide))) (by decide) (by decide)
  · exact (f6 60 (by decide)).trans ((f5 60 (by decide)).trans ((f4 60 (by decide)).trans ((f3 60 (by decide)).trans ((f2 60 (by decide)).trans ((f1 60 (by decide)).trans rfl)))))
  · exact (f6 64 (by decide)).trans ((f5 64 (by decide)).trans ((f4 64 (by decide)).trans ((f3 64 (by decide)).trans ((f2 64 (by decide)).trans h1.1))))
  · exact (f6 69 (by decide)).trans ((f5 69 (by decide)).trans ((f4 69 (by decide)).trans ((f3 69 (by decide)).trans ((f2 69 (by decide)).trans h1.2.1))))
  · exact (f6 70 (by decide)).trans ((f5 70 (by decide)).trans ((f4 70 (by decide)).trans ((f3 70 (by decide)).trans ((f2 70 (by decide)).trans h1.2.2.1))))
  · match l, hl with
    | 0, _ => exact (KM_eq (KM_eq (KM_eq k3 (fun x h8 h9 => o4 x (by omega))) (fun x h8 h9 => o5 x (by omega))) (fun x h8 h9 => o6 x (by omega)))
    | 1, _ => exact (KM_eq (KM_eq k4 (fun x h8 h9 => o5 x (by omega))) (fun x h8 h9 => o6 x (by omega)))
    | 2, _ => exact (KM_eq k5 (fun x h8 h9 => o6 x (by omega)))
    | 3, _ => exact k6
end S79
