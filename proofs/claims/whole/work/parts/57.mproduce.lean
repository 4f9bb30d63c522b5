/-! produce and commit: the model; commit: the class. -/
theorem mD_on {S : DS} {I I' : Nat → Int32} {A A' : Nat → Nat → Int32} {X Y : List Nat} (h : mD S I A) (ho : dO S = false) (f : Fr X I I') (g : Fr Y A A') (hx : 61 ∉ X ∧ 62 ∉ X ∧ 63 ∉ X) (hy : 50 ∉ Y) : mD S I' A' := by
  refine ⟨⟨(f 61 hx.1).trans h.1.1, Cm_fr f hx.2.2 h.1.2.1, (f 62 hx.2.1).trans h.1.2.2⟩, ?_, fun q => ?_⟩
  · rw [g 50 hy]
    exact h.2.1
  · rw [ho] at q
    exact Bool.noConfusion q
theorem mD_off {S : DS} {I I' : Nat → Int32} {A : Nat → Nat → Int32} {X : List Nat} (h : mD S I A) (f : Fr X I I') (hx : 61 ∉ X ∧ 62 ∉ X ∧ 63 ∉ X ∧ 64 ∉ X ∧ 69 ∉ X ∧ 70 ∉ X) : mD S I' A := mD_fr h f (Fr_refl [] A) hx (by decide)
theorem m1_of {p : Int32} (h1 : ¬ p < -1) (h2 : p < 0) : p = -1 := by
  apply Int32.toInt_inj.mp
  have h3 := Int32.lt_iff_toInt_lt.mp h2
  have h4 : ¬ p.toInt < (-1 : Int32).toInt := fun q => h1 (Int32.lt_iff_toInt_lt.mpr q)
  have e0 : (0 : Int32).toInt = 0 := rfl
  have e1 : (-1 : Int32).toInt = -1 := rfl
  rw [e1] at h4 ⊢
  rw [e0] at h3
  omega
section S57
variable {n u : Nat} {I : Nat → Int32} {A : Nat → Nat → Int32} {J : Int64} {B : Nat → Int64} {mk sn L : Nat} {xs : Nat → Int32} {X : Nat → mC} {D : Nat → Nat} 
set_option maxRecDepth 100000 in
set_option maxHeartbeats 4000000 in
theorem k_113x {a p q : Int32} {nn : Nat} (h61 : I 61 = nI 1) (h64 : I 64 = nI nn) {Q : mO × mHp → Prop} (kk : Q (.inl (some (.int (nI 0))), hS n u (va_up (va_up I 64 (nI 0)) 60 (nI 1)) A J B mk sn L xs X)) : mq 113 0 [some (.ref 67), some (.int a), some (.int p), some (.int q), none, none, none, none] [] (hS n u I A J B mk sn L xs X) Q := by
  refine x_al1 (pc := 0) rfl rfl ?_
  refine g_67_6 (pc := 1) (v := nI nn) rfl rfl h64 ?_
  refine x_is2 (pc := 4) (ml' := [some (.ref 67), some (.int a), some (.int p), some (.int q), some (.int (nI nn)), none, none, none]) rfl rfl ?_
  refine x_al1 (pc := 6) rfl rfl ?_
  refine x_const (pc := 7) (pc' := 8) (.int (nI 0)) rfl rfl rfl rfl ?_
  refine p_67_6 (pc := 8) rfl rfl ?_
  refine x_al1 (pc := 11) rfl rfl ?_
  refine x_al1 (pc := 12) rfl rfl ?_
  refine g_67_2 (pc := 13) (v := nI 1) rfl rfl h61 ?_
  refine x_ifN_eq (pc := 16) (t := 23) rfl rfl (by decide) (fun c => absurd c (by decide)) (fun _ => ?_)
  refine x_const (pc := 19) (pc' := 20) (.int (nI 1)) rfl rfl rfl rfl ?_
  refine x_step (pc := 20) (pc' := 61) rfl rfl rfl rfl ?_
  refine x_k (pc := 61) rfl rfl rfl ⟨Nat.le_of_ble_eq_true rfl, Nat.le_of_ble_eq_true rfl, Nat.le_of_ble_eq_true rfl⟩ rfl (k_114 (I := va_up I 64 (nI 0)) (A := A) (w := 1) (by decide) ?_)
  show mq 113 64 [some (.ref 67), some (.int a), some (.int p), some (.int q), some (.int (nI nn)), none, none, none] [.int (nI 1)] (hS n u (va_up (va_up I 64 (nI 0)) 60 (nI 1)) A J B mk sn L xs X) _
  refine x_ifN_eq (pc := 64) (t := 69) rfl rfl (by decide) (fun c => absurd c (by decide)) (fun _ => ?_)
  refine x_const (pc := 67) (pc' := 68) (.int (nI 0)) rfl rfl rfl rfl ?_
  refine x_ret (pc := 68) rfl rfl ?_
  exact kk
set_option maxRecDepth 100000 in
set_option maxHeartbeats 4000000 in
theorem k_113b {a p q : Int32} {nn : Nat} (h61 : I 61 = nI 0) (h64 : I 64 = nI nn) (h4 : nn ≤ 4) (hx : (a < 0 ∨ nI 3 ≤ a) ∨ (p < -1 ∨ nI 8 ≤ p) ∨ (¬ p = -1 ∧ q < 0) ∨ nn = 0) {Q : mO × mHp → Prop} (kk : Q (.inl (some (.int (nI 0))), hS n u (va_up (va_up I 64 (nI 0)) 60 (nI 2)) A J B mk sn L xs X)) : mq 113 0 [some (.ref 67), some (.int a), some (.int p), some (.int q), none, none, none, none] [] (hS n u I A J B mk sn L xs X) Q := by
  refine x_al1 (pc := 0) rfl rfl ?_
  refine g_67_6 (pc := 1) (v := nI nn) rfl rfl h64 ?_
  refine x_is2 (pc := 4) (ml' := [some (.ref 67), some (.int a), some (.int p), some (.int q), some (.int (nI nn)), none, none, none]) rfl rfl ?_
  refine x_al1 (pc := 6) rfl rfl ?_
  refine x_const (pc := 7) (pc' := 8) (.int (nI 0)) rfl rfl rfl rfl ?_
  refine p_67_6 (pc := 8) rfl rfl ?_
  refine x_al1 (pc := 11) rfl rfl ?_
  refine x_al1 (pc := 12) rfl rfl ?_
  refine g_67_2 (pc := 13) (v := nI 0) rfl rfl h61 ?_
  refine x_ifN_eq (pc := 16) (t := 23) rfl rfl (by decide) (fun _ => ?_) (fun c => absurd c (by decide))
  refine x_il1 (pc := 23) rfl rfl ?_
  refine x_if_lt (pc := 24) (t := 56) rfl rfl rfl (fun c24 => ?_) (fun c24 => ?_)
  · refine x_const (pc := 56) (pc' := 57) (.int (nI 2)) rfl rfl rfl rfl ?_
    refine x_step (pc := 57) (pc' := 61) rfl rfl rfl rfl ?_
    refine x_k (pc := 61) rfl rfl rfl ⟨Nat.le_of_ble_eq_true rfl, Nat.le_of_ble_eq_true rfl, Nat.le_of_ble_eq_true rfl⟩ rfl (k_114 (I := va_up I 64 (nI 0)) (A := A) (w := 2) (by decide) ?_)
    show mq 113 64 [some (.ref 67), some (.int a), some (.int p), some (.int q), some (.int (nI nn)), none, none, none] [.int (nI 1)] (hS n u (va_up (va_up I 64 (nI 0)) 60 (nI 2)) A J B mk sn L xs X) _
    refine x_ifN_eq (pc := 64) (t := 69) rfl rfl (by decide) (fun c => absurd c (by decide)) (fun _ => ?_)
    refine x_const (pc := 67) (pc' := 68) (.int (nI 0)) rfl rfl rfl rfl ?_
    refine x_ret (pc := 68) rfl rfl ?_
    exact kk
  · refine x_il1 (pc := 27) rfl rfl ?_
    refine x_const (pc := 28) (pc' := 29) (.int (nI 2)) rfl rfl rfl rfl ?_
    refine x_cmp_gt (pc := 29) (t := 56) rfl rfl rfl (fun c29 => ?_) (fun c29 => ?_)
    · refine x_const (pc := 56) (pc' := 57) (.int (nI 2)) rfl rfl rfl rfl ?_
      refine x_step (pc := 57) (pc' := 61) rfl rfl rfl rfl ?_
      refine x_k (pc := 61) rfl rfl rfl ⟨Nat.le_of_ble_eq_true rfl, Nat.le_of_ble_eq_true rfl, Nat.le_of_ble_eq_true rfl⟩ rfl (k_114 (I := va_up I 64 (nI 0)) (A := A) (w := 2) (by decide) ?_)
      show mq 113 64 [some (.ref 67), some (.int a), some (.int p), some (.int q), some (.int (nI nn)), none, none, none] [.int (nI 1)] (hS n u (va_up (va_up I 64 (nI 0)) 60 (nI 2)) A J B mk sn L xs X) _
      refine x_ifN_eq (pc := 64) (t := 69) rfl rfl (by decide) (fun c => absurd c (by decide)) (fun _ => ?_)
      refine x_const (pc := 67) (pc' := 68) (.int (nI 0)) rfl rfl rfl rfl ?_
      refine x_ret (pc := 68) rfl rfl ?_
      exact kk
    · refine x_il1 (pc := 32) rfl rfl ?_
      refine x_const (pc := 33) (pc' := 34) (.int (-1)) rfl rfl rfl rfl ?_
      refine x_cmp_lt (pc := 34) (t := 56) rfl rfl rfl (fun c34 => ?_) (fun c34 => ?_)
      · refine x_const (pc := 56) (pc' := 57) (.int (nI 2)) rfl rfl rfl rfl ?_
        refine x_step (pc := 57) (pc' := 61) rfl rfl rfl rfl ?_
        refine x_k (pc := 61) rfl rfl rfl ⟨Nat.le_of_ble_eq_true rfl, Nat.le_of_ble_eq_true rfl, Nat.le_of_ble_eq_true rfl⟩ rfl (k_114 (I := va_up I 64 (nI 0)) (A := A) (w := 2) (by decide) ?_)
        show mq 113 64 [some (.ref 67), some (.int a), some (.int p), some (.int q), some (.int (nI nn)), none, none, none] [.int (nI 1)] (hS n u (va_up (va_up I 64 (nI 0)) 60 (nI 2)) A J B mk sn L xs X) _
        refine x_ifN_eq (pc := 64) (t := 69) rfl rfl (by decide) (fun c => absurd c (by decide)) (fun _ => ?_)
        refine x_const (pc := 67) (pc' := 68) (.int (nI 0)) rfl rfl rfl rfl ?_
        refine x_ret (pc := 68) rfl rfl ?_
        exact kk
      · refine x_il1 (pc := 37) rfl rfl ?_
        refine x_const (pc := 38) (pc' := 40) (.int (nI 7)) rfl rfl rfl rfl ?_
        refine x_cmp_gt (pc := 40) (t := 56) rfl rfl rfl (fun c40 => ?_) (fun c40 => ?_)
        · refine x_const (pc := 56) (pc' := 57) (.int (nI 2)) rfl rfl rfl rfl ?_
          refine x_step (pc := 57) (pc' := 61) rfl rfl rfl rfl ?_
          refine x_k (pc := 61) rfl rfl rfl ⟨Nat.le_of_ble_eq_true rfl, Nat.le_of_ble_eq_true rfl, Nat.le_of_ble_eq_true rfl⟩ rfl (k_114 (I := va_up I 64 (nI 0)) (A := A) (w := 2) (by decide) ?_)
          show mq 113 64 [some (.ref 67), some (.int a), some (.int p), some (.int q), some (.int (nI nn)), none, none, none] [.int (nI 1)] (hS n u (va_up (va_up I 64 (nI 0)) 60 (nI 2)) A J B mk sn L xs X) _
          refine x_ifN_eq (pc := 64) (t := 69) rfl rfl (by decide) (fun c => absurd c (by decide)) (fun _ => ?_)
          refine x_const (pc := 67) (pc' := 68) (.int (nI 0)) rfl rfl rfl rfl ?_
          refine x_ret (pc := 68) rfl rfl ?_
          exact kk
        · refine x_il1 (pc := 43) rfl rfl ?_
          refine x_if_lt (pc := 44) (t := 51) rfl rfl rfl (fun c44 => ?_) (fun c44 => ?_)
          · refine x_il2 (pc := 51) rfl rfl ?_
            refine x_ifN_ne (pc := 53) (t := 60) rfl rfl (by omega) (fun c53 => ?_) (fun c53 => ?_)
            · rcases hx with (h | h) | (h | h) | h | h
              all_goals first | exact absurd h c24 | exact absurd h (ngt_of (m := 2) (by decide) c29) | exact absurd h c34 | exact absurd h (ngt_of (m := 7) (by decide) c40) | exact absurd h c53 | exact absurd h.2 c48 | exact absurd (m1_of c34 c44) h.1
            · refine x_const (pc := 56) (pc' := 57) (.int (nI 2)) rfl rfl rfl rfl ?_
              refine x_step (pc := 57) (pc' := 61) rfl rfl rfl rfl ?_
              refine x_k (pc := 61) rfl rfl rfl ⟨Nat.le_of_ble_eq_true rfl, Nat.le_of_ble_eq_true rfl, Nat.le_of_ble_eq_true rfl⟩ rfl (k_114 (I := va_up I 64 (nI 0)) (A := A) (w := 2) (by decide) ?_)
              show mq 113 64 [some (.ref 67), some (.int a), some (.int p), some (.int q), some (.int (nI nn)), none, none, none] [.int (nI 1)] (hS n u (va_up (va_up I 64 (nI 0)) 60 (nI 2)) A J B mk sn L xs X) _
              refine x_ifN_eq (pc := 64) (t := 69) rfl rfl (by decide) (fun c => absurd c (by decide)) (fun _ => ?_)
              refine x_const (pc := 67) (pc' := 68) (.int (nI 0)) rfl rfl rfl rfl ?_
              refine x_ret (pc := 68) rfl rfl ?_
              exact kk
          · refine x_il1 (pc := 47) rfl rfl ?_
            refine x_if_lt (pc := 48) (t := 56) rfl rfl rfl (fun c48 => ?_) (fun c48 => ?_)
            · refine x_const (pc := 56) (pc' := 57) (.int (nI 2)) rfl rfl rfl rfl ?_
              refine x_step (pc := 57) (pc' := 61) rfl rfl rfl rfl ?_
              refine x_k (pc := 61) rfl rfl rfl ⟨Nat.le_of_ble_eq_true rfl, Nat.le_of_ble_eq_true rfl, Nat.le_of_ble_eq_true rfl⟩ rfl (k_114 (I := va_up I 64 (nI 0)) (A := A) (w := 2) (by decide) ?_)
              show mq 113 64 [some (.ref 67), some (.int a), some (.int p), some (.int q), some (.int (nI nn)), none, none, none] [.int (nI 1)] (hS n u (va_up (va_up I 64 (nI 0)) 60 (nI 2)) A J B mk sn L xs X) _
              refine x_ifN_eq (pc := 64) (t := 69) rfl rfl (by decide) (fun c => absurd c (by decide)) (fun _ => ?_)
              refine x_const (pc := 67) (pc' := 68) (.int (nI 0)) rfl rfl rfl rfl ?_
              refine x_ret (pc := 68) rfl rfl ?_
              exact kk
            · refine x_il2 (pc := 51) rfl rfl ?_
              refine x_ifN_ne (pc := 53) (t := 60) rfl rfl (by omega) (fun c53 => ?_) (fun c53 => ?_)
              · rcases hx with (h | h) | (h | h) | h | h
                all_goals first | exact absurd h c24 | exact absurd h (ngt_of (m := 2) (by decide) c29) | exact absurd h c34 | exact absurd h (ngt_of (m := 7) (by decide) c40) | exact absurd h c53 | exact absurd h.2 c48 | exact absurd (m1_of c34 c44) h.1
              · refine x_const (pc := 56) (pc' := 57) (.int (nI 2)) rfl rfl rfl rfl ?_
                refine x_step (pc := 57) (pc' := 61) rfl rfl rfl rfl ?_
                refine x_k (pc := 61) rfl rfl rfl ⟨Nat.le_of_ble_eq_true rfl, Nat.le_of_ble_eq_true rfl, Nat.le_of_ble_eq_true rfl⟩ rfl (k_114 (I := va_up I 64 (nI 0)) (A := A) (w := 2) (by decide) ?_)
                show mq 113 64 [some (.ref 67), some (.int a), some (.int p), some (.int q), some (.int (nI nn)), none, none, none] [.int (nI 1)] (hS n u (va_up (va_up I 64 (nI 0)) 60 (nI 2)) A J B mk sn L xs X) _
                refine x_ifN_eq (pc := 64) (t := 69) rfl rfl (by decide) (fun c => absurd c (by decide)) (fun _ => ?_)
                refine x_const (pc := 67) (pc' := 68) (.int (nI 0)) rfl rfl rfl rfl ?_
                refine x_ret (pc := 68) rfl rfl ?_
                exact kk
set_option maxRecDepth 100000 in
set_option maxHeartbeats 4000000 in
theorem k_113s {l p m nn : Nat} {q : Int32} (h61 : I 61 = nI 0) (h64 : I 64 = nI nn) (h1 : 1 ≤ nn) (h4 : nn ≤ 4) (hl : l < 3) (hp8 : p < 8) (hq0 : ¬ q < 0) (hm : A 55 (3 * (8 * l + p) + 1) = nI m) (hm5 : m < 5) (hs1 : ¬ m = 0) (hs2 : A 55 (3 * (8 * l + p)) = q) (hs3 : m = nn) {Q : mO × mHp → Prop} (kk : Q (.inl (some (.int (A 55 (3 * (8 * l + p) + 2)))), hS n u (va_up (va_up I 64 (nI 0)) 60 (nI 0)) A J B mk sn L xs X)) : mq 113 0 [some (.ref 67), some (.int (nI l)), some (.int (nI p)), some (.int q), none, none, none, none] [] (hS n u I A J B mk sn L xs X) Q := by
  refine x_al1 (pc := 0) rfl rfl ?_
  refine g_67_6 (pc := 1) (v := nI nn) rfl rfl h64 ?_
  refine x_is2 (pc := 4) (ml' := [some (.ref 67), some (.int (nI l)), some (.int (nI p)), some (.int q), some (.int (nI nn)), none, none, none]) rfl rfl ?_
  refine x_al1 (pc := 6) rfl rfl ?_
  refine x_const (pc := 7) (pc' := 8) (.int (nI 0)) rfl rfl rfl rfl ?_
  refine p_67_6 (pc := 8) rfl rfl ?_
  refine x_al1 (pc := 11) rfl rfl ?_
  refine x_al1 (pc := 12) rfl rfl ?_
  refine g_67_2 (pc := 13) (v := nI 0) rfl rfl h61 ?_
  refine x_ifN_eq (pc := 16) (t := 23) rfl rfl (by decide) (fun _ => ?_) (fun c => absurd c (by decide))
  refine x_il1 (pc := 23) rfl rfl ?_
  refine x_ifN_lt (pc := 24) (t := 56) rfl rfl (by omega) ?_
  refine x_il1 (pc := 27) rfl rfl ?_
  refine x_const (pc := 28) (pc' := 29) (.int (nI 2)) rfl rfl rfl rfl ?_
  refine x_cmpN_gt (pc := 29) (t := 56) rfl rfl (by omega) (by omega) (fun c29 => ?_) (fun c29 => ?_)
  · omega
  · refine x_il1 (pc := 32) rfl rfl ?_
    refine x_const (pc := 33) (pc' := 34) (.int (-1)) rfl rfl rfl rfl ?_
    refine x_cmp_lt (pc := 34) (t := 56) rfl rfl rfl (fun c34 => ?_) (fun c34 => ?_)
    · exact absurd c34 (nI_m1lt hp8)
    · refine x_il1 (pc := 37) rfl rfl ?_
      refine x_const (pc := 38) (pc' := 40) (.int (nI 7)) rfl rfl rfl rfl ?_
      refine x_cmpN_gt (pc := 40) (t := 56) rfl rfl (by omega) (by omega) (fun c40 => ?_) (fun c40 => ?_)
      · omega
      · refine x_il1 (pc := 43) rfl rfl ?_
        refine x_ifN_lt (pc := 44) (t := 51) rfl rfl (by omega) ?_
        refine x_il1 (pc := 47) rfl rfl ?_
        refine x_if_lt (pc := 48) (t := 56) rfl rfl rfl (fun c48 => ?_) (fun c48 => ?_)
        · exact absurd c48 hq0
        · refine x_il2 (pc := 51) rfl rfl ?_
          refine x_ifN_ne (pc := 53) (t := 60) rfl rfl (by omega) (fun c53 => ?_) (fun c53 => ?_)
          · refine x_const (pc := 60) (pc' := 61) (.int (nI 0)) rfl rfl rfl rfl ?_
            refine x_k (pc := 61) rfl rfl rfl ⟨Nat.le_of_ble_eq_true rfl, Nat.le_of_ble_eq_true rfl, Nat.le_of_ble_eq_true rfl⟩ rfl (k_114 (I := va_up I 64 (nI 0)) (A := A) (w := 0) (by decide) ?_)
            show mq 113 64 [some (.ref 67), some (.int (nI l)), some (.int (nI p)), some (.int q), some (.int (nI nn)), none, none, none] [.int (nI 0)] (hS n u (va_up (va_up I 64 (nI 0)) 60 (nI 0)) A J B mk sn L xs X) _
            refine x_ifN_eq (pc := 64) (t := 69) rfl rfl (by decide) (fun _ => ?_) (fun c => absurd c (by decide))
            refine x_il1 (pc := 69) rfl rfl ?_
            refine x_ifN_ge (pc := 70) (t := 77) rfl rfl (by omega) ?_
            refine x_const (pc := 77) (pc' := 78) (.int (nI 3)) rfl rfl rfl rfl ?_
            refine x_const (pc := 78) (pc' := 80) (.int (nI 8)) rfl rfl rfl rfl ?_
            refine x_il1 (pc := 80) rfl rfl ?_
            refine x_imulN (pc := 81) (c := 8 * l) rfl rfl ?_
            refine x_il1 (pc := 82) rfl rfl ?_
            refine x_iaddN (pc := 83) (c := (8 * l) + p) rfl rfl ?_
            refine x_imulN (pc := 84) (c := 3 * ((8 * l) + p)) rfl rfl ?_
            refine x_is2 (pc := 85) (ml' := [some (.ref 67), some (.int (nI l)), some (.int (nI p)), some (.int q), some (.int (nI nn)), some (.int (nI (3 * ((8 * l) + p)))), none, none]) rfl rfl ?_
            refine x_il1 (pc := 87) rfl rfl ?_
            refine x_ifN_lt (pc := 88) (t := 107) rfl rfl (by omega) ?_
            refine x_al1 (pc := 91) rfl rfl ?_
            refine g_67_14 (pc := 92) rfl rfl ?_
            refine x_il2 (pc := 95) rfl rfl ?_
            refine x_const (pc := 97) (pc' := 98) (.int (nI 1)) rfl rfl rfl rfl ?_
            refine x_iaddN (pc := 98) (c := (3 * ((8 * l) + p)) + 1) rfl rfl ?_
            refine al_73 (pc := 99) (q := 3 * (8 * l + p) + 1) (v := nI m) rfl rfl (by omega) hm ?_
            refine x_ifN_le (pc := 100) (t := 107) rfl rfl (by omega) (fun c100 => ?_) (fun c100 => ?_)
            · omega
            · refine x_const (pc := 103) (pc' := 104) (.int (nI 1)) rfl rfl rfl rfl ?_
              refine x_step (pc := 104) (pc' := 108) rfl rfl rfl rfl ?_
              refine x_is2 (pc := 108) (ml' := [some (.ref 67), some (.int (nI l)), some (.int (nI p)), some (.int q), some (.int (nI nn)), some (.int (nI (3 * ((8 * l) + p)))), some (.int (nI 1)), none]) rfl rfl ?_
              refine x_il2 (pc := 110) rfl rfl ?_
              refine x_ifN_eq (pc := 112) (t := 150) rfl rfl (by decide) (fun c => absurd c (by decide)) (fun _ => ?_)
              refine x_al1 (pc := 115) rfl rfl ?_
              refine g_67_14 (pc := 116) rfl rfl ?_
              refine x_il2 (pc := 119) rfl rfl ?_
              refine al_73 (pc := 121) (q := 3 * ((8 * l) + p)) (v := (A 55) (3 * ((8 * l) + p))) rfl rfl (by omega) rfl ?_
              refine x_il1 (pc := 122) rfl rfl ?_
              refine x_cmp_ne (pc := 123) (t := 150) rfl rfl rfl (fun c123 => ?_) (fun c123 => ?_)
              · exact absurd hs2 c123
              · refine x_al1 (pc := 126) rfl rfl ?_
                refine g_67_14 (pc := 127) rfl rfl ?_
                refine x_il2 (pc := 130) rfl rfl ?_
                refine x_const (pc := 132) (pc' := 133) (.int (nI 1)) rfl rfl rfl rfl ?_
                refine x_iaddN (pc := 133) (c := (3 * ((8 * l) + p)) + 1) rfl rfl ?_
                refine al_73 (pc := 134) (q := 3 * (8 * l + p) + 1) (v := nI m) rfl rfl (by omega) hm ?_
                refine x_il2 (pc := 135) rfl rfl ?_
                refine x_cmpN_ne (pc := 137) (t := 150) rfl rfl (by omega) (by omega) (fun c137 => ?_) (fun c137 => ?_)
                · exact absurd hs3 c137
                · refine x_al1 (pc := 140) rfl rfl ?_
                  refine g_67_14 (pc := 141) rfl rfl ?_
                  refine x_il2 (pc := 144) rfl rfl ?_
                  refine x_const (pc := 146) (pc' := 147) (.int (nI 2)) rfl rfl rfl rfl ?_
                  refine x_iaddN (pc := 147) (c := (3 * ((8 * l) + p)) + 2) rfl rfl ?_
                  refine al_73 (pc := 148) (q := (3 * ((8 * l) + p)) + 2) (v := (A 55) ((3 * ((8 * l) + p)) + 2)) rfl rfl (by omega) rfl ?_
                  refine x_ret (pc := 149) rfl rfl ?_
                  exact kk
          · omega
set_option maxRecDepth 100000 in
set_option maxHeartbeats 4000000 in
theorem k_113o {l p m nn : Nat} {q : Int32} (h61 : I 61 = nI 0) (h64 : I 64 = nI nn) (h1 : 1 ≤ nn) (h4 : nn ≤ 4) (hl : l < 3) (hp8 : p < 8) (hq0 : ¬ q < 0) (hm : A 55 (3 * (8 * l + p) + 1) = nI m) (hm5 : m < 5) (hns : ¬ (¬ m = 0 ∧ A 55 (3 * (8 * l + p)) = q ∧ m = nn)) (hm0 : ¬ m = 0) (hor : ¬ A 55 (3 * (8 * l + p)) + nI m = q) {Q : mO × mHp → Prop} (kk : Q (.inl (some (.int (nI 0))), hS n u (va_up (va_up (va_up I 64 (nI 0)) 60 (nI 0)) 60 (nI 3)) A J B mk sn L xs X)) : mq 113 0 [some (.ref 67), some (.int (nI l)), some (.int (nI p)), some (.int q), none, none, none, none] [] (hS n u I A J B mk sn L xs X) Q := by
  refine x_al1 (pc := 0) rfl rfl ?_
  refine g_67_6 (pc := 1) (v := nI nn) rfl rfl h64 ?_
  refine x_is2 (pc := 4) (ml' := [some (.ref 67), some (.int (nI l)), some (.int (nI p)), some (.int q), some (.int (nI nn)), none, none, none]) rfl rfl ?_
  refine x_al1 (pc := 6) rfl rfl ?_
  refine x_const (pc := 7) (pc' := 8) (.int (nI 0)) rfl rfl rfl rfl ?_
  refine p_67_6 (pc := 8) rfl rfl ?_
  refine x_al1 (pc := 11) rfl rfl ?_
  refine x_al1 (pc := 12) rfl rfl ?_
  refine g_67_2 (pc := 13) (v := nI 0) rfl rfl h61 ?_
  refine x_ifN_eq (pc := 16) (t := 23) rfl rfl (by decide) (fun _ => ?_) (fun c => absurd c (by decide))
  refine x_il1 (pc := 23) rfl rfl ?_
  refine x_ifN_lt (pc := 24) (t := 56) rfl rfl (by omega) ?_
  refine x_il1 (pc := 27) rfl rfl ?_
  refine x_const (pc := 28) (pc' := 29) (.int (nI 2)) rfl rfl rfl rfl ?_
  refine x_cmpN_gt (pc := 29) (t := 56) rfl rfl (by omega) (by omega) (fun c29 => ?_) (fun c29 => ?_)
  · omega
  · refine x_il1 (pc := 32) rfl rfl ?_
    refine x_const (pc := 33) (pc' := 34) (.int (-1)) rfl rfl rfl rfl ?_
    refine x_cmp_lt (pc := 34) (t := 56) rfl rfl rfl (fun c34 => ?_) (fun c34 => ?_)
    · exact absurd c34 (nI_m1lt hp8)
    · refine x_il1 (pc := 37) rfl rfl ?_
      refine x_const (pc := 38) (pc' := 40) (.int (nI 7)) rfl rfl rfl rfl ?_
      refine x_cmpN_gt (pc := 40) (t := 56) rfl rfl (by omega) (by omega) (fun c40 => ?_) (fun c40 => ?_)
      · omega
      · refine x_il1 (pc := 43) rfl rfl ?_
        refine x_ifN_lt (pc := 44) (t := 51) rfl rfl (by omega) ?_
        refine x_il1 (pc := 47) rfl rfl ?_
        refine x_if_lt (pc := 48) (t := 56) rfl rfl rfl (fun c48 => ?_) (fun c48 => ?_)
        · exact absurd c48 hq0
        · refine x_il2 (pc := 51) rfl rfl ?_
          refine x_ifN_ne (pc := 53) (t := 60) rfl rfl (by omega) (fun c53 => ?_) (fun c53 => ?_)
          · refine x_const (pc := 60) (pc' := 61) (.int (nI 0)) rfl rfl rfl rfl ?_
            refine x_k (pc := 61) rfl rfl rfl ⟨Nat.le_of_ble_eq_true rfl, Nat.le_of_ble_eq_true rfl, Nat.le_of_ble_eq_true rfl⟩ rfl (k_114 (I := va_up I 64 (nI 0)) (A := A) (w := 0) (by decide) ?_)
            show mq 113 64 [some (.ref 67), some (.int (nI l)), some (.int (nI p)), some (.int q), some (.int (nI nn)), none, none, none] [.int (nI 0)] (hS n u (va_up (va_up I 64 (nI 0)) 60 (nI 0)) A J B mk sn L xs X) _
            refine x_ifN_eq (pc := 64) (t := 69) rfl rfl (by decide) (fun _ => ?_) (fun c => absurd c (by decide))
            refine x_il1 (pc := 69) rfl rfl ?_
            refine x_ifN_ge (pc := 70) (t := 77) rfl rfl (by omega) ?_
            refine x_const (pc := 77) (pc' := 78) (.int (nI 3)) rfl rfl rfl rfl ?_
            refine x_const (pc := 78) (pc' := 80) (.int (nI 8)) rfl rfl rfl rfl ?_
            refine x_il1 (pc := 80) rfl rfl ?_
            refine x_imulN (pc := 81) (c := 8 * l) rfl rfl ?_
            refine x_il1 (pc := 82) rfl rfl ?_
            refine x_iaddN (pc := 83) (c := (8 * l) + p) rfl rfl ?_
            refine x_imulN (pc := 84) (c := 3 * ((8 * l) + p)) rfl rfl ?_
            refine x_is2 (pc := 85) (ml' := [some (.ref 67), some (.int (nI l)), some (.int (nI p)), some (.int q), some (.int (nI nn)), some (.int (nI (3 * ((8 * l) + p)))), none, none]) rfl rfl ?_
            refine x_il1 (pc := 87) rfl rfl ?_
            refine x_ifN_lt (pc := 88) (t := 107) rfl rfl (by omega) ?_
            refine x_al1 (pc := 91) rfl rfl ?_
            refine g_67_14 (pc := 92) rfl rfl ?_
            refine x_il2 (pc := 95) rfl rfl ?_
            refine x_const (pc := 97) (pc' := 98) (.int (nI 1)) rfl rfl rfl rfl ?_
            refine x_iaddN (pc := 98) (c := (3 * ((8 * l) + p)) + 1) rfl rfl ?_
            refine al_73 (pc := 99) (q := 3 * (8 * l + p) + 1) (v := nI m) rfl rfl (by omega) hm ?_
            refine x_ifN_le (pc := 100) (t := 107) rfl rfl (by omega) (fun c100 => ?_) (fun c100 => ?_)
            · omega
            · refine x_const (pc := 103) (pc' := 104) (.int (nI 1)) rfl rfl rfl rfl ?_
              refine x_step (pc := 104) (pc' := 108) rfl rfl rfl rfl ?_
              refine x_is2 (pc := 108) (ml' := [some (.ref 67), some (.int (nI l)), some (.int (nI p)), some (.int q), some (.int (nI nn)), some (.int (nI (3 * ((8 * l) + p)))), some (.int (nI 1)), none]) rfl rfl ?_
              refine x_il2 (pc := 110) rfl rfl ?_
              refine x_ifN_eq (pc := 112) (t := 150) rfl rfl (by decide) (fun c => absurd c (by decide)) (fun _ => ?_)
              refine x_al1 (pc := 115) rfl rfl ?_
              refine g_67_14 (pc := 116) rfl rfl ?_
              refine x_il2 (pc := 119) rfl rfl ?_
              refine al_73 (pc := 121) (q := 3 * ((8 * l) + p)) (v := (A 55) (3 * ((8 * l) + p))) rfl rfl (by omega) rfl ?_
              refine x_il1 (pc := 122) rfl rfl ?_
              refine x_cmp_ne (pc := 123) (t := 150) rfl rfl rfl (fun c123 => ?_) (fun c123 => ?_)
              · refine x_al1 (pc := 150) rfl rfl ?_
                refine x_il2 (pc := 151) rfl rfl ?_
                refine x_ifN_eq (pc := 153) (t := 181) rfl rfl (by decide) (fun c => absurd c (by decide)) (fun _ => ?_)
                refine x_al1 (pc := 156) rfl rfl ?_
                refine g_67_14 (pc := 157) rfl rfl ?_
                refine x_il2 (pc := 160) rfl rfl ?_
                refine al_73 (pc := 162) (q := 3 * ((8 * l) + p)) (v := (A 55) (3 * ((8 * l) + p))) rfl rfl (by omega) rfl ?_
                refine x_al1 (pc := 163) rfl rfl ?_
                refine g_67_14 (pc := 164) rfl rfl ?_
                refine x_il2 (pc := 167) rfl rfl ?_
                refine x_const (pc := 169) (pc' := 170) (.int (nI 1)) rfl rfl rfl rfl ?_
                refine x_iaddN (pc := 170) (c := (3 * ((8 * l) + p)) + 1) rfl rfl ?_
                refine al_73 (pc := 171) (q := 3 * (8 * l + p) + 1) (v := nI m) rfl rfl (by omega) hm ?_
                refine x_iadd (pc := 172) rfl rfl ?_
                refine x_il1 (pc := 173) rfl rfl ?_
                refine x_cmp_eq (pc := 174) (t := 181) rfl rfl rfl (fun c174 => ?_) (fun c174 => ?_)
                · exact absurd c174 hor
                · refine x_const (pc := 177) (pc' := 178) (.int (nI 3)) rfl rfl rfl rfl ?_
                  refine x_step (pc := 178) (pc' := 182) rfl rfl rfl rfl ?_
                  refine x_k (pc := 182) rfl rfl rfl ⟨Nat.le_of_ble_eq_true rfl, Nat.le_of_ble_eq_true rfl, Nat.le_of_ble_eq_true rfl⟩ rfl (k_114 (I := va_up (va_up I 64 (nI 0)) 60 (nI 0)) (A := A) (w := 3) (by decide) ?_)
                  show mq 113 185 [some (.ref 67), some (.int (nI l)), some (.int (nI p)), some (.int q), some (.int (nI nn)), some (.int (nI (3 * ((8 * l) + p)))), some (.int (nI 1)), none] [.int (nI 1)] (hS n u (va_up (va_up (va_up I 64 (nI 0)) 60 (nI 0)) 60 (nI 3)) A J B mk sn L xs X) _
                  refine x_ifN_eq (pc := 185) (t := 190) rfl rfl (by decide) (fun c => absurd c (by decide)) (fun _ => ?_)
                  refine x_const (pc := 188) (pc' := 189) (.int (nI 0)) rfl rfl rfl rfl ?_
                  refine x_ret (pc := 189) rfl rfl ?_
                  exact kk
              · refine x_al1 (pc := 126) rfl rfl ?_
                refine g_67_14 (pc := 127) rfl rfl ?_
                refine x_il2 (pc := 130) rfl rfl ?_
                refine x_const (pc := 132) (pc' := 133) (.int (nI 1)) rfl rfl rfl rfl ?_
                refine x_iaddN (pc := 133) (c := (3 * ((8 * l) + p)) + 1) rfl rfl ?_
                refine al_73 (pc := 134) (q := 3 * (8 * l + p) + 1) (v := nI m) rfl rfl (by omega) hm ?_
                refine x_il2 (pc := 135) rfl rfl ?_
                refine x_cmpN_ne (pc := 137) (t := 150) rfl rfl (by omega) (by omega) (fun c137 => ?_) (fun c137 => ?_)
                · refine x_al1 (pc := 150) rfl rfl ?_
                  refine x_il2 (pc := 151) rfl rfl ?_
                  refine x_ifN_eq (pc := 153) (t := 181) rfl rfl (by decide) (fun c => absurd c (by decide)) (fun _ => ?_)
                  refine x_al1 (pc := 156) rfl rfl ?_
                  refine g_67_14 (pc := 157) rfl rfl ?_
                  refine x_il2 (pc := 160) rfl rfl ?_
                  refine al_73 (pc := 162) (q := 3 * ((8 * l) + p)) (v := (A 55) (3 * ((8 * l) + p))) rfl rfl (by omega) rfl ?_
                  refine x_al1 (pc := 163) rfl rfl ?_
                  refine g_67_14 (pc := 164) rfl rfl ?_
                  refine x_il2 (pc := 167) rfl rfl ?_
                  refine x_const (pc := 169) (pc' := 170) (.int (nI 1)) rfl rfl rfl rfl ?_
                  refine x_iaddN (pc := 170) (c := (3 * ((8 * l) + p)) + 1) rfl rfl ?_
                  refine al_73 (pc := 171) (q := 3 * (8 * l + p) + 1) (v := nI m) rfl rfl (by omega) hm ?_
                  refine x_iadd (pc := 172) rfl rfl ?_
                  refine x_il1 (pc := 173) rfl rfl ?_
                  refine x_cmp_eq (pc := 174) (t := 181) rfl rfl rfl (fun c174 => ?_) (fun c174 => ?_)
                  · exact absurd c174 hor
                  · refine x_const (pc := 177) (pc' := 178) (.int (nI 3)) rfl rfl rfl rfl ?_
                    refine x_step (pc := 178) (pc' := 182) rfl rfl rfl rfl ?_
                    refine x_k (pc := 182) rfl rfl rfl ⟨Nat.le_of_ble_eq_true rfl, Nat.le_of_ble_eq_true rfl, Nat.le_of_ble_eq_true rfl⟩ rfl (k_114 (I := va_up (va_up I 64 (nI 0)) 60 (nI 0)) (A := A) (w := 3) (by decide) ?_)
                    show mq 113 185 [some (.ref 67), some (.int (nI l)), some (.int (nI p)), some (.int q), some (.int (nI nn)), some (.int (nI (3 * ((8 * l) + p)))), some (.int (nI 1)), none] [.int (nI 1)] (hS n u (va_up (va_up (va_up I 64 (nI 0)) 60 (nI 0)) 60 (nI 3)) A J B mk sn L xs X) _
                    refine x_ifN_eq (pc := 185) (t := 190) rfl rfl (by decide) (fun c => absurd c (by decide)) (fun _ => ?_)
                    refine x_const (pc := 188) (pc' := 189) (.int (nI 0)) rfl rfl rfl rfl ?_
                    refine x_ret (pc := 189) rfl rfl ?_
                    exact kk
                · exact absurd ⟨by omega, c123, c137⟩ hns
          · omega
set_option maxRecDepth 100000 in
set_option maxHeartbeats 4000000 in
theorem k_113p {l p m nn : Nat} {q : Int32} (h61 : I 61 = nI 0) (h64 : I 64 = nI nn) (h1 : 1 ≤ nn) (h4 : nn ≤ 4) (hl : l < 3) (hp8 : p < 8) (hq0 : ¬ q < 0) (hm : A 55 (3 * (8 * l + p) + 1) = nI m) (hm5 : m < 5) (hns : ¬ (¬ m = 0 ∧ A 55 (3 * (8 * l + p)) = q ∧ m = nn)) (hor : m = 0 ∨ A 55 (3 * (8 * l + p)) + nI m = q) {N cn : Nat} {f bc : Nat → Nat} {r : List R5} {S : DS} (hM : mD S I A) (ho : dO S = false) (hG : SG (dD S) l f cn) (hW : ∀ k, k < cn → WS (dD S) (f k) (bc (f k))) (hnx : nxO (dD S) f bc cn = nI N) (hNb : N + 4 < 2 ^ 31) (hr : r.length = nn) (hT : MT 51 A r) {Q : mO × mHp → Prop} (kk : ∀ S' f' cn', apS S l f cn N (nI p) q (nmb N r) = some (S', f', cn') → dO S' = false → ∀ I' A', Fr [60, 62, 63, 64, 65, 66, 67, 68, 71] I I' → Fr [50, 51, 52, 54, 55] A A' → mD S' I' A' → I' 60 = nI 0 → I' 64 = nI 0 → A' 55 = knw (A 55) l p q nn (nI N) → Q (.inl (some (.int (nI N))), hS n u I' A' J B mk sn L xs X)) (kx : ∀ S' f' cn', apS S l f cn N (nI p) q (nmb N r) = some (S', f', cn') → dO S' = true → ∀ I' A', Fr [60, 61, 62, 63, 64, 65, 66, 67, 68, 69, 70, 71] I I' → Fr [50, 51, 52, 54, 55, 56] A A' → mD S' I' A' → I' 60 = nI 1 → Q (.inl (some (.int (nI 0))), hS n u I' A' J B mk sn L xs X)) (kr : apS S l f cn N (nI p) q (nmb N r) = none → ∀ I' A', Fr [60, 64, 65, 66, 67, 68, 71] I I' → Fr [51, 52, 54] A A' → I' 60 = nI 3 → I' 64 = nI 0 → Q (.inl (some (.int (nI 0))), hS n u I' A' J B mk sn L xs X)) : mq 113 0 [some (.ref 67), some (.int (nI l)), some (.int (nI p)), some (.int q), none, none, none, none] [] (hS n u I A J B mk sn L xs X) Q := by
  refine x_al1 (pc := 0) rfl rfl ?_
  refine g_67_6 (pc := 1) (v := nI nn) rfl rfl h64 ?_
  refine x_is2 (pc := 4) (ml' := [some (.ref 67), some (.int (nI l)), some (.int (nI p)), some (.int q), some (.int (nI nn)), none, none, none]) rfl rfl ?_
  refine x_al1 (pc := 6) rfl rfl ?_
  refine x_const (pc := 7) (pc' := 8) (.int (nI 0)) rfl rfl rfl rfl ?_
  refine p_67_6 (pc := 8) rfl rfl ?_
  refine x_al1 (pc := 11) rfl rfl ?_
  refine x_al1 (pc := 12) rfl rfl ?_
  refine g_67_2 (pc := 13) (v := nI 0) rfl rfl h61 ?_
  refine x_ifN_eq (pc := 16) (t := 23) rfl rfl (by decide) (fun _ => ?_) (fun c => absurd c (by decide))
  refine x_il1 (pc := 23) rfl rfl ?_
  refine x_ifN_lt (pc := 24) (t := 56) rfl rfl (by omega) ?_
  refine x_il1 (pc := 27) rfl rfl ?_
  refine x_const (pc := 28) (pc' := 29) (.int (nI 2)) rfl rfl rfl rfl ?_
  refine x_cmpN_gt (pc := 29) (t := 56) rfl rfl (by omega) (by omega) (fun c29 => ?_) (fun c29 => ?_)
  · omega
  · refine x_il1 (pc := 32) rfl rfl ?_
    refine x_const (pc := 33) (pc' := 34) (.int (-1)) rfl rfl rfl rfl ?_
    refine x_cmp_lt (pc := 34) (t := 56) rfl rfl rfl (fun c34 => ?_) (fun c34 => ?_)
    · exact absurd c34 (nI_m1lt hp8)
    · refine x_il1 (pc := 37) rfl rfl ?_
      refine x_const (pc := 38) (pc' := 40) (.int (nI 7)) rfl rfl rfl rfl ?_
      refine x_cmpN_gt (pc := 40) (t := 56) rfl rfl (by omega) (by omega) (fun c40 => ?_) (fun c40 => ?_)
      · omega
      · refine x_il1 (pc := 43) rfl rfl ?_
        refine x_ifN_lt (pc := 44) (t := 51) rfl rfl (by omega) ?_
        refine x_il1 (pc := 47) rfl rfl ?_
        refine x_if_lt (pc := 48) (t := 56) rfl rfl rfl (fun c48 => ?_) (fun c48 => ?_)
        · exact absurd c48 hq0
        · refine x_il2 (pc := 51) rfl rfl ?_
          refine x_ifN_ne (pc := 53) (t := 60) rfl rfl (by omega) (fun c53 => ?_) (fun c53 => ?_)
          · refine x_const (pc := 60) (pc' := 61) (.int (nI 0)) rfl rfl rfl rfl ?_
            refine x_k (pc := 61) rfl rfl rfl ⟨Nat.le_of_ble_eq_true rfl, Nat.le_of_ble_eq_true rfl, Nat.le_of_ble_eq_true rfl⟩ rfl (k_114 (I := va_up I 64 (nI 0)) (A := A) (w := 0) (by decide) ?_)
            show mq 113 64 [some (.ref 67), some (.int (nI l)), some (.int (nI p)), some (.int q), some (.int (nI nn)), none, none, none] [.int (nI 0)] (hS n u (va_up (va_up I 64 (nI 0)) 60 (nI 0)) A J B mk sn L xs X) _
            refine x_ifN_eq (pc := 64) (t := 69) rfl rfl (by decide) (fun _ => ?_) (fun c => absurd c (by decide))
            refine x_il1 (pc := 69) rfl rfl ?_
            refine x_ifN_ge (pc := 70) (t := 77) rfl rfl (by omega) ?_
            refine x_const (pc := 77) (pc' := 78) (.int (nI 3)) rfl rfl rfl rfl ?_
            refine x_const (pc := 78) (pc' := 80) (.int (nI 8)) rfl rfl rfl rfl ?_
            refine x_il1 (pc := 80) rfl rfl ?_
            refine x_imulN (pc := 81) (c := 8 * l) rfl rfl ?_
            refine x_il1 (pc := 82) rfl rfl ?_
            refine x_iaddN (pc := 83) (c := (8 * l) + p) rfl rfl ?_
            refine x_imulN (pc := 84) (c := 3 * ((8 * l) + p)) rfl rfl ?_
            refine x_is2 (pc := 85) (ml' := [some (.ref 67), some (.int (nI l)), some (.int (nI p)), some (.int q), some (.int (nI nn)), some (.int (nI (3 * ((8 * l) + p)))), none, none]) rfl rfl ?_
            refine x_il1 (pc := 87) rfl rfl ?_
            refine x_ifN_lt (pc := 88) (t := 107) rfl rfl (by omega) ?_
            refine x_al1 (pc := 91) rfl rfl ?_
            refine g_67_14 (pc := 92) rfl rfl ?_
            refine x_il2 (pc := 95) rfl rfl ?_
            refine x_const (pc := 97) (pc' := 98) (.int (nI 1)) rfl rfl rfl rfl ?_
            refine x_iaddN (pc := 98) (c := (3 * ((8 * l) + p)) + 1) rfl rfl ?_
            refine al_73 (pc := 99) (q := 3 * (8 * l + p) + 1) (v := nI m) rfl rfl (by omega) hm ?_
            refine x_ifN_le (pc := 100) (t := 107) rfl rfl (by omega) (fun c100 => ?_) (fun c100 => ?_)
            · refine x_const (pc := 107) (pc' := 108) (.int (nI 0)) rfl rfl rfl rfl ?_
              refine x_is2 (pc := 108) (ml' := [some (.ref 67), some (.int (nI l)), some (.int (nI p)), some (.int q), some (.int (nI nn)), some (.int (nI (3 * ((8 * l) + p)))), some (.int (nI 0)), none]) rfl rfl ?_
              refine x_il2 (pc := 110) rfl rfl ?_
              refine x_ifN_eq (pc := 112) (t := 150) rfl rfl (by decide) (fun _ => ?_) (fun c => absurd c (by decide))
              refine x_al1 (pc := 150) rfl rfl ?_
              refine x_il2 (pc := 151) rfl rfl ?_
              refine x_ifN_eq (pc := 153) (t := 181) rfl rfl (by decide) (fun _ => ?_) (fun c => absurd c (by decide))
              refine x_const (pc := 181) (pc' := 182) (.int (nI 0)) rfl rfl rfl rfl ?_
              refine x_k (pc := 182) rfl rfl rfl ⟨Nat.le_of_ble_eq_true rfl, Nat.le_of_ble_eq_true rfl, Nat.le_of_ble_eq_true rfl⟩ rfl (k_114 (I := va_up (va_up I 64 (nI 0)) 60 (nI 0)) (A := A) (w := 0) (by decide) ?_)
              show mq 113 185 [some (.ref 67), some (.int (nI l)), some (.int (nI p)), some (.int q), some (.int (nI nn)), some (.int (nI (3 * ((8 * l) + p)))), some (.int (nI 0)), none] [.int (nI 0)] (hS n u (va_up (va_up (va_up I 64 (nI 0)) 60 (nI 0)) 60 (nI 0)) A J B mk sn L xs X) _
              refine x_ifN_eq (pc := 185) (t := 190) rfl rfl (by decide) (fun _ => ?_) (fun c => absurd c (by decide))
              refine x_al1 (pc := 190) rfl rfl ?_
              refine x_il1 (pc := 191) rfl rfl ?_
              refine x_al1 (pc := 192) rfl rfl ?_
              refine g_67_5 (pc := 193) rfl rfl ?_
              refine x_il2 (pc := 196) rfl rfl ?_
              refine x_il1 (pc := 198) rfl rfl ?_
              refine x_ifN_ge (pc := 199) (t := 208) rfl rfl (by omega) ?_
              refine x_il1 (pc := 208) rfl rfl ?_
              refine x_il1 (pc := 209) rfl rfl ?_
              refine x_ifN_ge (pc := 210) (t := 217) rfl rfl (by omega) ?_
              refine x_il1 (pc := 217) rfl rfl ?_
              refine x_k (pc := 218) rfl rfl rfl ⟨Nat.le_of_ble_eq_true rfl, Nat.le_of_ble_eq_true rfl, Nat.le_of_ble_eq_true rfl⟩ rfl (k_115_51 (I := va_up (va_up (va_up I 64 (nI 0)) 60 (nI 0)) 60 (nI 0)) (A := A) (S := S) (l := l) (p := p) (nn := nn) (N := N) (q := q) (r := r) (f := f) (bc := bc) (mD_on hM ho (show Fr [60, 64] I (va_up (va_up (va_up I 64 (nI 0)) 60 (nI 0)) 60 (nI 0)) from (Fr_u (Fr_u (Fr_u (Fr_refl _ _) (by decide)) (by decide)) (by decide))) (Fr_refl [] A) (by decide) (by decide)) ho (by omega) hG hW hnx hNb hr h1 h4 (by omega) hT (fun S6 f6 c6 e6 I6 A6 x6 y6 h6 z6 b6 => ?_) (fun e6 I6 A6 x6 y6 b6 => ?_))
              · by_cases o6 : dO S6 = true
                · have h661 : I6 61 = nI 1 := by
                    rw [h6.1.1, o6]
                    rfl
                  show mq 113 221 [some (.ref 67), some (.int (nI l)), some (.int (nI p)), some (.int q), some (.int (nI nn)), some (.int (nI (3 * ((8 * l) + p)))), some (.int (nI 0)), none] [.int (nI N)] (hS n u I6 A6 J B mk sn L xs X) _
                  refine x_is2 (pc := 221) (ml' := [some (.ref 67), some (.int (nI l)), some (.int (nI p)), some (.int q), some (.int (nI nn)), some (.int (nI (3 * ((8 * l) + p)))), some (.int (nI 0)), some (.int (nI N))]) rfl rfl ?_
                  refine x_al1 (pc := 223) rfl rfl ?_
                  refine x_al1 (pc := 224) rfl rfl ?_
                  refine g_67_2 (pc := 225) (v := nI 1) rfl rfl h661 ?_
                  refine x_ifN_eq (pc := 228) (t := 235) rfl rfl (by decide) (fun c => absurd c (by decide)) (fun _ => ?_)
                  refine x_const (pc := 231) (pc' := 232) (.int (nI 1)) rfl rfl rfl rfl ?_
                  refine x_step (pc := 232) (pc' := 245) rfl rfl rfl rfl ?_
                  refine x_k (pc := 245) rfl rfl rfl ⟨Nat.le_of_ble_eq_true rfl, Nat.le_of_ble_eq_true rfl, Nat.le_of_ble_eq_true rfl⟩ rfl (k_114 (I := I6) (A := A6) (w := 1) (by decide) ?_)
                  show mq 113 248 [some (.ref 67), some (.int (nI l)), some (.int (nI p)), some (.int q), some (.int (nI nn)), some (.int (nI (3 * ((8 * l) + p)))), some (.int (nI 0)), some (.int (nI N))] [.int (nI 1)] (hS n u (va_up I6 60 (nI 1)) A6 J B mk sn L xs X) _
                  refine x_ifN_eq (pc := 248) (t := 255) rfl rfl (by decide) (fun c => absurd c (by decide)) (fun _ => ?_)
                  refine x_const (pc := 251) (pc' := 252) (.int (nI 0)) rfl rfl rfl rfl ?_
                  refine x_step (pc := 252) (pc' := 257) rfl rfl rfl rfl ?_
                  refine x_ret (pc := 257) rfl rfl ?_
                  exact kx S6 f6 c6 e6 o6 _ _ (Fr_u (Fr_cons (Fr_u (Fr_u (Fr_u (Fr_refl _ _) (by decide)) (by decide)) (by decide)) x6 (by decide)) (by decide)) (Fr_cons (Fr_refl _ _) y6 (by decide)) (mD_off h6 (Fr_up I6 60 _) (by decide)) rfl
                · have o6f := ne_true o6
                  have h661 : I6 61 = nI 0 := by
                    rw [h6.1.1, o6f]
                    rfl
                  show mq 113 221 [some (.ref 67), some (.int (nI l)), some (.int (nI p)), some (.int q), some (.int (nI nn)), some (.int (nI (3 * ((8 * l) + p)))), some (.int (nI 0)), none] [.int (nI N)] (hS n u I6 A6 J B mk sn L xs X) _
                  refine x_is2 (pc := 221) (ml' := [some (.ref 67), some (.int (nI l)), some (.int (nI p)), some (.int q), some (.int (nI nn)), some (.int (nI (3 * ((8 * l) + p)))), some (.int (nI 0)), some (.int (nI N))]) rfl rfl ?_
                  refine x_al1 (pc := 223) rfl rfl ?_
                  refine x_al1 (pc := 224) rfl rfl ?_
                  refine g_67_2 (pc := 225) (v := nI 0) rfl rfl h661 ?_
                  refine x_ifN_eq (pc := 228) (t := 235) rfl rfl (by decide) (fun _ => ?_) (fun c => absurd c (by decide))
                  refine x_il2 (pc := 235) rfl rfl ?_
                  refine x_ifN_ge (pc := 237) (t := 244) rfl rfl (by omega) ?_
                  refine x_const (pc := 244) (pc' := 245) (.int (nI 0)) rfl rfl rfl rfl ?_
                  refine x_k (pc := 245) rfl rfl rfl ⟨Nat.le_of_ble_eq_true rfl, Nat.le_of_ble_eq_true rfl, Nat.le_of_ble_eq_true rfl⟩ rfl (k_114 (I := I6) (A := A6) (w := 0) (by decide) ?_)
                  show mq 113 248 [some (.ref 67), some (.int (nI l)), some (.int (nI p)), some (.int q), some (.int (nI nn)), some (.int (nI (3 * ((8 * l) + p)))), some (.int (nI 0)), some (.int (nI N))] [.int (nI 0)] (hS n u (va_up I6 60 (nI 0)) A6 J B mk sn L xs X) _
                  refine x_ifN_eq (pc := 248) (t := 255) rfl rfl (by decide) (fun _ => ?_) (fun c => absurd c (by decide))
                  refine x_il2 (pc := 255) rfl rfl ?_
                  refine x_ret (pc := 257) rfl rfl ?_
                  exact kk S6 f6 c6 e6 o6f _ _ (Fr_u (Fr_cons (Fr_u (Fr_u (Fr_u (Fr_refl _ _) (by decide)) (by decide)) (by decide)) (z6 o6f).1 (by decide)) (by decide)) (Fr_cons (Fr_refl _ A) (z6 o6f).2.1 (by decide)) (mD_off h6 (Fr_up I6 60 _) (by decide)) rfl ((show (va_up I6 60 (nI 0)) 64 = I6 64 from rfl).trans (((z6 o6f).1 64 (by decide)).trans rfl)) (((z6 o6f).2.2).trans (if_pos hp8))
              · show mq 113 221 [some (.ref 67), some (.int (nI l)), some (.int (nI p)), some (.int q), some (.int (nI nn)), some (.int (nI (3 * ((8 * l) + p)))), some (.int (nI 0)), none] [.int (-1)] (hS n u I6 A6 J B mk sn L xs X) _
                refine x_is2 (pc := 221) (ml' := [some (.ref 67), some (.int (nI l)), some (.int (nI p)), some (.int q), some (.int (nI nn)), some (.int (nI (3 * ((8 * l) + p)))), some (.int (nI 0)), some (.int (-1))]) rfl rfl ?_
                refine x_al1 (pc := 223) rfl rfl ?_
                refine x_al1 (pc := 224) rfl rfl ?_
                refine g_67_2 (pc := 225) (v := nI 0) rfl rfl ((x6 61 (by decide)).trans h61) ?_
                refine x_ifN_eq (pc := 228) (t := 235) rfl rfl (by decide) (fun _ => ?_) (fun c => absurd c (by decide))
                refine x_il2 (pc := 235) rfl rfl ?_
                refine x_if_ge (pc := 237) (t := 244) rfl rfl rfl (fun c => absurd c (by decide)) (fun _ => ?_)
                refine x_const (pc := 240) (pc' := 241) (.int (nI 3)) rfl rfl rfl rfl ?_
                refine x_step (pc := 241) (pc' := 245) rfl rfl rfl rfl ?_
                refine x_k (pc := 245) rfl rfl rfl ⟨Nat.le_of_ble_eq_true rfl, Nat.le_of_ble_eq_true rfl, Nat.le_of_ble_eq_true rfl⟩ rfl (k_114 (I := I6) (A := A6) (w := 3) (by decide) ?_)
                show mq 113 248 [some (.ref 67), some (.int (nI l)), some (.int (nI p)), some (.int q), some (.int (nI nn)), some (.int (nI (3 * ((8 * l) + p)))), some (.int (nI 0)), some (.int (-1))] [.int (nI 1)] (hS n u (va_up I6 60 (nI 3)) A6 J B mk sn L xs X) _
                refine x_ifN_eq (pc := 248) (t := 255) rfl rfl (by decide) (fun c => absurd c (by decide)) (fun _ => ?_)
                refine x_const (pc := 251) (pc' := 252) (.int (nI 0)) rfl rfl rfl rfl ?_
                refine x_step (pc := 252) (pc' := 257) rfl rfl rfl rfl ?_
                refine x_ret (pc := 257) rfl rfl ?_
                exact kr e6 _ _ (Fr_u (Fr_cons (Fr_u (Fr_u (Fr_u (Fr_refl _ _) (by decide)) (by decide)) (by decide)) x6 (by decide)) (by decide)) (Fr_cons (Fr_refl _ A) y6 (by decide)) rfl ((show (va_up I6 60 (nI 3)) 64 = I6 64 from rfl).trans ((x6 64 (by decide)).trans rfl))
            · refine x_const (pc := 103) (pc' := 104) (.int (nI 1)) rfl rfl rfl rfl ?_
              refine x_step (pc := 104) (pc' := 108) rfl rfl rfl rfl ?_
              refine x_is2 (pc := 108) (ml' := [some (.ref 67), some (.int (nI l)), some (.int (nI p)), some (.int q), some (.int (nI nn)), some (.int (nI (3 * ((8 * l) + p)))), some (.int (nI 1)), none]) rfl rfl ?_
              refine x_il2 (pc := 110) rfl rfl ?_
              refine x_ifN_eq (pc := 112) (t := 150) rfl rfl (by decide) (fun c => absurd c (by decide)) (fun _ => ?_)
              refine x_al1 (pc := 115) rfl rfl ?_
              refine g_67_14 (pc := 116) rfl rfl ?_
              refine x_il2 (pc := 119) rfl rfl ?_
              refine al_73 (pc := 121) (q := 3 * ((8 * l) + p)) (v := (A 55) (3 * ((8 * l) + p))) rfl rfl (by omega) rfl ?_
              refine x_il1 (pc := 122) rfl rfl ?_
              refine x_cmp_ne (pc := 123) (t := 150) rfl rfl rfl (fun c123 => ?_) (fun c123 => ?_)
              · refine x_al1 (pc := 150) rfl rfl ?_
                refine x_il2 (pc := 151) rfl rfl ?_
                refine x_ifN_eq (pc := 153) (t := 181) rfl rfl (by decide) (fun c => absurd c (by decide)) (fun _ => ?_)
                refine x_al1 (pc := 156) rfl rfl ?_
                refine g_67_14 (pc := 157) rfl rfl ?_
                refine x_il2 (pc := 160) rfl rfl ?_
                refine al_73 (pc := 162) (q := 3 * ((8 * l) + p)) (v := (A 55) (3 * ((8 * l) + p))) rfl rfl (by omega) rfl ?_
                refine x_al1 (pc := 163) rfl rfl ?_
                refine g_67_14 (pc := 164) rfl rfl ?_
                refine x_il2 (pc := 167) rfl rfl ?_
                refine x_const (pc := 169) (pc' := 170) (.int (nI 1)) rfl rfl rfl rfl ?_
                refine x_iaddN (pc := 170) (c := (3 * ((8 * l) + p)) + 1) rfl rfl ?_
                refine al_73 (pc := 171) (q := 3 * (8 * l + p) + 1) (v := nI m) rfl rfl (by omega) hm ?_
                refine x_iadd (pc := 172) rfl rfl ?_
                refine x_il1 (pc := 173) rfl rfl ?_
                refine x_cmp_eq (pc := 174) (t := 181) rfl rfl rfl (fun c174 => ?_) (fun c174 => ?_)
                · refine x_const (pc := 181) (pc' := 182) (.int (nI 0)) rfl rfl rfl rfl ?_
                  refine x_k (pc := 182) rfl rfl rfl ⟨Nat.le_of_ble_eq_true rfl, Nat.le_of_ble_eq_true rfl, Nat.le_of_ble_eq_true rfl⟩ rfl (k_114 (I := va_up (va_up I 64 (nI 0)) 60 (nI 0)) (A := A) (w := 0) (by decide) ?_)
                  show mq 113 185 [some (.ref 67), some (.int (nI l)), some (.int (nI p)), some (.int q), some (.int (nI nn)), some (.int (nI (3 * ((8 * l) + p)))), some (.int (nI 1)), none] [.int (nI 0)] (hS n u (va_up (va_up (va_up I 64 (nI 0)) 60 (nI 0)) 60 (nI 0)) A J B mk sn L xs X) _
                  refine x_ifN_eq (pc := 185) (t := 190) rfl rfl (by decide) (fun _ => ?_) (fun c => absurd c (by decide))
                  refine x_al1 (pc := 190) rfl rfl ?_
                  refine x_il1 (pc := 191) rfl rfl ?_
                  refine x_al1 (pc := 192) rfl rfl ?_
                  refine g_67_5 (pc := 193) rfl rfl ?_
                  refine x_il2 (pc := 196) rfl rfl ?_
                  refine x_il1 (pc := 198) rfl rfl ?_
                  refine x_ifN_ge (pc := 199) (t := 208) rfl rfl (by omega) ?_
                  refine x_il1 (pc := 208) rfl rfl ?_
                  refine x_il1 (pc := 209) rfl rfl ?_
                  refine x_ifN_ge (pc := 210) (t := 217) rfl rfl (by omega) ?_
                  refine x_il1 (pc := 217) rfl rfl ?_
                  refine x_k (pc := 218) rfl rfl rfl ⟨Nat.le_of_ble_eq_true rfl, Nat.le_of_ble_eq_true rfl, Nat.le_of_ble_eq_true rfl⟩ rfl (k_115_51 (I := va_up (va_up (va_up I 64 (nI 0)) 60 (nI 0)) 60 (nI 0)) (A := A) (S := S) (l := l) (p := p) (nn := nn) (N := N) (q := q) (r := r) (f := f) (bc := bc) (mD_on hM ho (show Fr [60, 64] I (va_up (va_up (va_up I 64 (nI 0)) 60 (nI 0)) 60 (nI 0)) from (Fr_u (Fr_u (Fr_u (Fr_refl _ _) (by decide)) (by decide)) (by decide))) (Fr_refl [] A) (by decide) (by decide)) ho (by omega) hG hW hnx hNb hr h1 h4 (by omega) hT (fun S6 f6 c6 e6 I6 A6 x6 y6 h6 z6 b6 => ?_) (fun e6 I6 A6 x6 y6 b6 => ?_))
                  · by_cases o6 : dO S6 = true
                    · have h661 : I6 61 = nI 1 := by
                        rw [h6.1.1, o6]
                        rfl
                      show mq 113 221 [some (.ref 67), some (.int (nI l)), some (.int (nI p)), some (.int q), some (.int (nI nn)), some (.int (nI (3 * ((8 * l) + p)))), some (.int (nI 1)), none] [.int (nI N)] (hS n u I6 A6 J B mk sn L xs X) _
                      refine x_is2 (pc := 221) (ml' := [some (.ref 67), some (.int (nI l)), some (.int (nI p)), some (.int q), some (.int (nI nn)), some (.int (nI (3 * ((8 * l) + p)))), some (.int (nI 1)), some (.int (nI N))]) rfl rfl ?_
                      refine x_al1 (pc := 223) rfl rfl ?_
                      refine x_al1 (pc := 224) rfl rfl ?_
                      refine g_67_2 (pc := 225) (v := nI 1) rfl rfl h661 ?_
                      refine x_ifN_eq (pc := 228) (t := 235) rfl rfl (by decide) (fun c => absurd c (by decide)) (fun _ => ?_)
                      refine x_const (pc := 231) (pc' := 232) (.int (nI 1)) rfl rfl rfl rfl ?_
                      refine x_step (pc := 232) (pc' := 245) rfl rfl rfl rfl ?_
                      refine x_k (pc := 245) rfl rfl rfl ⟨Nat.le_of_ble_eq_true rfl, Nat.le_of_ble_eq_true rfl, Nat.le_of_ble_eq_true rfl⟩ rfl (k_114 (I := I6) (A := A6) (w := 1) (by decide) ?_)
                      show mq 113 248 [some (.ref 67), some (.int (nI l)), some (.int (nI p)), some (.int q), some (.int (nI nn)), some (.int (nI (3 * ((8 * l) + p)))), some (.int (nI 1)), some (.int (nI N))] [.int (nI 1)] (hS n u (va_up I6 60 (nI 1)) A6 J B mk sn L xs X) _
                      refine x_ifN_eq (pc := 248) (t := 255) rfl rfl (by decide) (fun c => absurd c (by decide)) (fun _ => ?_)
                      refine x_const (pc := 251) (pc' := 252) (.int (nI 0)) rfl rfl rfl rfl ?_
                      refine x_step (pc := 252) (pc' := 257) rfl rfl rfl rfl ?_
                      refine x_ret (pc := 257) rfl rfl ?_
                      exact kx S6 f6 c6 e6 o6 _ _ (Fr_u (Fr_cons (Fr_u (Fr_u (Fr_u (Fr_refl _ _) (by decide)) (by decide)) (by decide)) x6 (by decide)) (by decide)) (Fr_cons (Fr_refl _ _) y6 (by decide)) (mD_off h6 (Fr_up I6 60 _) (by decide)) rfl
                    · have o6f := ne_true o6
                      have h661 : I6 61 = nI 0 := by
                        rw [h6.1.1, o6f]
                        rfl
                      show mq 113 221 [some (.ref 67), some (.int (nI l)), some (.int (nI p)), some (.int q), some (.int (nI nn)), some (.int (nI (3 * ((8 * l) + p)))), some (.int (nI 1)), none] [.int (nI N)] (hS n u I6 A6 J B mk sn L xs X) _
                      refine x_is2 (pc := 221) (ml' := [some (.ref 67), some (.int (nI l)), some (.int (nI p)), some (.int q), some (.int (nI nn)), some (.int (nI (3 * ((8 * l) + p)))), some (.int (nI 1)), some (.int (nI N))]) rfl rfl ?_
                      refine x_al1 (pc := 223) rfl rfl ?_
                      refine x_al1 (pc := 224) rfl rfl ?_
                      refine g_67_2 (pc := 225) (v := nI 0) rfl rfl h661 ?_
                      refine x_ifN_eq (pc := 228) (t := 235) rfl rfl (by decide) (fun _ => ?_) (fun c => absurd c (by decide))
                      refine x_il2 (pc := 235) rfl rfl ?_
                      refine x_ifN_ge (pc := 237) (t := 244) rfl rfl (by omega) ?_
                      refine x_const (pc := 244) (pc' := 245) (.int (nI 0)) rfl rfl rfl rfl ?_
                      refine x_k (pc := 245) rfl rfl rfl ⟨Nat.le_of_ble_eq_true rfl, Nat.le_of_ble_eq_true rfl, Nat.le_of_ble_eq_true rfl⟩ rfl (k_114 (I := I6) (A := A6) (w := 0) (by decide) ?_)
                      show mq 113 248 [some (.ref 67), some (.int (nI l)), some (.int (nI p)), some (.int q), some (.int (nI nn)), some (.int (nI (3 * ((8 * l) + p)))), some (.int (nI 1)), some (.int (nI N))] [.int (nI 0)] (hS n u (va_up I6 60 (nI 0)) A6 J B mk sn L xs X) _
                      refine x_ifN_eq (pc := 248) (t := 255) rfl rfl (by decide) (fun _ => ?_) (fun c => absurd c (by decide))
                      refine x_il2 (pc := 255) rfl rfl ?_
                      refine x_ret (pc := 257) rfl rfl ?_
                      exact kk S6 f6 c6 e6 o6f _ _ (Fr_u (Fr_cons (Fr_u (Fr_u (Fr_u (Fr_refl _ _) (by decide)) (by decide)) (by decide)) (z6 o6f).1 (by decide)) (by decide)) (Fr_cons (Fr_refl _ A) (z6 o6f).2.1 (by decide)) (mD_off h6 (Fr_up I6 60 _) (by decide)) rfl ((show (va_up I6 60 (nI 0)) 64 = I6 64 from rfl).trans (((z6 o6f).1 64 (by decide)).trans rfl)) (((z6 o6f).2.2).trans (if_pos hp8))
                  · show mq 113 221 [some (.ref 67), some (.int (nI l)), some (.int (nI p)), some (.int q), some (.int (nI nn)), some (.int (nI (3 * ((8 * l) + p)))), some (.int (nI 1)), none] [.int (-1)] (hS n u I6 A6 J B mk sn L xs X) _
                    refine x_is2 (pc := 221) (ml' := [some (.ref 67), some (.int (nI l)), some (.int (nI p)), some (.int q), some (.int (nI nn)), some (.int (nI (3 * ((8 * l) + p)))), some (.int (nI 1)), some (.int (-1))]) rfl rfl ?_
                    refine x_al1 (pc := 223) rfl rfl ?_
                    refine x_al1 (pc := 224) rfl rfl ?_
                    refine g_67_2 (pc := 225) (v := nI 0) rfl rfl ((x6 61 (by decide)).trans h61) ?_
                    refine x_ifN_eq (pc := 228) (t := 235) rfl rfl (by decide) (fun _ => ?_) (fun c => absurd c (by decide))
                    refine x_il2 (pc := 235) rfl rfl ?_
                    refine x_if_ge (pc := 237) (t := 244) rfl rfl rfl (fun c => absurd c (by decide)) (fun _ => ?_)
                    refine x_const (pc := 240) (pc' := 241) (.int (nI 3)) rfl rfl rfl rfl ?_
                    refine x_step (pc := 241) (pc' := 245) rfl rfl rfl rfl ?_
                    refine x_k (pc := 245) rfl rfl rfl ⟨Nat.le_of_ble_eq_true rfl, Nat.le_of_ble_eq_true rfl, Nat.le_of_ble_eq_true rfl⟩ rfl (k_114 (I := I6) (A := A6) (w := 3) (by decide) ?_)
                    show mq 113 248 [some (.ref 67), some (.int (nI l)), some (.int (nI p)), some (.int q), some (.int (nI nn)), some (.int (nI (3 * ((8 * l) + p)))), some (.int (nI 1)), some (.int (-1))] [.int (nI 1)] (hS n u (va_up I6 60 (nI 3)) A6 J B mk sn L xs X) _
                    refine x_ifN_eq (pc := 248) (t := 255) rfl rfl (by decide) (fun c => absurd c (by decide)) (fun _ => ?_)
                    refine x_const (pc := 251) (pc' := 252) (.int (nI 0)) rfl rfl rfl rfl ?_
                    refine x_step (pc := 252) (pc' := 257) rfl rfl rfl rfl ?_
                    refine x_ret (pc := 257) rfl rfl ?_
                    exact kr e6 _ _ (Fr_u (Fr_cons (Fr_u (Fr_u (Fr_u (Fr_refl _ _) (by decide)) (by decide)) (by decide)) x6 (by decide)) (by decide)) (Fr_cons (Fr_refl _ A) y6 (by decide)) rfl ((show (va_up I6 60 (nI 3)) 64 = I6 64 from rfl).trans ((x6 64 (by decide)).trans rfl))
                · rcases hor with h | h
                  · omega
                  · exact absurd h c174
              · refine x_al1 (pc := 126) rfl rfl ?_
                refine g_67_14 (pc := 127) rfl rfl ?_
                refine x_il2 (pc := 130) rfl rfl ?_
                refine x_const (pc := 132) (pc' := 133) (.int (nI 1)) rfl rfl rfl rfl ?_
                refine x_iaddN (pc := 133) (c := (3 * ((8 * l) + p)) + 1) rfl rfl ?_
                refine al_73 (pc := 134) (q := 3 * (8 * l + p) + 1) (v := nI m) rfl rfl (by omega) hm ?_
                refine x_il2 (pc := 135) rfl rfl ?_
                refine x_cmpN_ne (pc := 137) (t := 150) rfl rfl (by omega) (by omega) (fun c137 => ?_) (fun c137 => ?_)
                · refine x_al1 (pc := 150) rfl rfl ?_
                  refine x_il2 (pc := 151) rfl rfl ?_
                  refine x_ifN_eq (pc := 153) (t := 181) rfl rfl (by decide) (fun c => absurd c (by decide)) (fun _ => ?_)
                  refine x_al1 (pc := 156) rfl rfl ?_
                  refine g_67_14 (pc := 157) rfl rfl ?_
                  refine x_il2 (pc := 160) rfl rfl ?_
                  refine al_73 (pc := 162) (q := 3 * ((8 * l) + p)) (v := (A 55) (3 * ((8 * l) + p))) rfl rfl (by omega) rfl ?_
                  refine x_al1 (pc := 163) rfl rfl ?_
                  refine g_67_14 (pc := 164) rfl rfl ?_
                  refine x_il2 (pc := 167) rfl rfl ?_
                  refine x_const (pc := 169) (pc' := 170) (.int (nI 1)) rfl rfl rfl rfl ?_
                  refine x_iaddN (pc := 170) (c := (3 * ((8 * l) + p)) + 1) rfl rfl ?_
                  refine al_73 (pc := 171) (q := 3 * (8 * l + p) + 1) (v := nI m) rfl rfl (by omega) hm ?_
                  refine x_iadd (pc := 172) rfl rfl ?_
                  refine x_il1 (pc := 173) rfl rfl ?_
                  refine x_cmp_eq (pc := 174) (t := 181) rfl rfl rfl (fun c174 => ?_) (fun c174 => ?_)
                  · refine x_const (pc := 181) (pc' := 182) (.int (nI 0)) rfl rfl rfl rfl ?_
                    refine x_k (pc := 182) rfl rfl rfl ⟨Nat.le_of_ble_eq_true rfl, Nat.le_of_ble_eq_true rfl, Nat.le_of_ble_eq_true rfl⟩ rfl (k_114 (I := va_up (va_up I 64 (nI 0)) 60 (nI 0)) (A := A) (w := 0) (by decide) ?_)
                    show mq 113 185 [some (.ref 67), some (.int (nI l)), some (.int (nI p)), some (.int q), some (.int (nI nn)), some (.int (nI (3 * ((8 * l) + p)))), some (.int (nI 1)), none] [.int (nI 0)] (hS n u (va_up (va_up (va_up I 64 (nI 0)) 60 (nI 0)) 60 (nI 0)) A J B mk sn L xs X) _
                    refine x_ifN_eq (pc := 185) (t := 190) rfl rfl (by decide) (fun _ => ?_) (fun c => absurd c (by decide))
                    refine x_al1 (pc := 190) rfl rfl ?_
                    refine x_il1 (pc := 191) rfl rfl ?_
                    refine x_al1 (pc := 192) rfl rfl ?_
                    refine g_67_5 (pc := 193) rfl rfl ?_
                    refine x_il2 (pc := 196) rfl rfl ?_
                    refine x_il1 (pc := 198) rfl rfl ?_
                    refine x_ifN_ge (pc := 199) (t := 208) rfl rfl (by omega) ?_
                    refine x_il1 (pc := 208) rfl rfl ?_
                    refine x_il1 (pc := 209) rfl rfl ?_
                    refine x_ifN_ge (pc := 210) (t := 217) rfl rfl (by omega) ?_
                    refine x_il1 (pc := 217) rfl rfl ?_
                    refine x_k (pc := 218) rfl rfl rfl ⟨Nat.le_of_ble_eq_true rfl, Nat.le_of_ble_eq_true rfl, Nat.le_of_ble_eq_true rfl⟩ rfl (k_115_51 (I := va_up (va_up (va_up I 64 (nI 0)) 60 (nI 0)) 60 (nI 0)) (A := A) (S := S) (l := l) (p := p) (nn := nn) (N := N) (q := q) (r := r) (f := f) (bc := bc) (mD_on hM ho (show Fr [60, 64] I (va_up (va_up (va_up I 64 (nI 0)) 60 (nI 0)) 60 (nI 0)) from (Fr_u (Fr_u (Fr_u (Fr_refl _ _) (by decide)) (by decide)) (by decide))) (Fr_refl [] A) (by decide) (by decide)) ho (by omega) hG hW hnx hNb hr h1 h4 (by omega) hT (fun S6 f6 c6 e6 I6 A6 x6 y6 h6 z6 b6 => ?_) (fun e6 I6 A6 x6 y6 b6 => ?_))
                    · by_cases o6 : dO S6 = true
                      · have h661 : I6 61 = nI 1 := by
                          rw [h6.1.1, o6]
                          rfl
                        show mq 113 221 [some (.ref 67), some (.int (nI l)), some (.int (nI p)), some (.int q), some (.int (nI nn)), some (.int (nI (3 * ((8 * l) + p)))), some (.int (nI 1)), none] [.int (nI N)] (hS n u I6 A6 J B mk sn L xs X) _
                        refine x_is2 (pc := 221) (ml' := [some (.ref 67), some (.int (nI l)), some (.int (nI p)), some (.int q), some (.int (nI nn)), some (.int (nI (3 * ((8 * l) + p)))), some (.int (nI 1)), some (.int (nI N))]) rfl rfl ?_
                        refine x_al1 (pc := 223) rfl rfl ?_
                        refine x_al1 (pc := 224) rfl rfl ?_
                        refine g_67_2 (pc := 225) (v := nI 1) rfl rfl h661 ?_
                        refine x_ifN_eq (pc := 228) (t := 235) rfl rfl (by decide) (fun c => absurd c (by decide)) (fun _ => ?_)
                        refine x_const (pc := 231) (pc' := 232) (.int (nI 1)) rfl rfl rfl rfl ?_
                        refine x_step (pc := 232) (pc' := 245) rfl rfl rfl rfl ?_
                        refine x_k (pc := 245) rfl rfl rfl ⟨Nat.le_of_ble_eq_true rfl, Nat.le_of_ble_eq_true rfl, Nat.le_of_ble_eq_true rfl⟩ rfl (k_114 (I := I6) (A := A6) (w := 1) (by decide) ?_)
                        show mq 113 248 [some (.ref 67), some (.int (nI l)), some (.int (nI p)), some (.int q), some (.int (nI nn)), some (.int (nI (3 * ((8 * l) + p)))), some (.int (nI 1)), some (.int (nI N))] [.int (nI 1)] (hS n u (va_up I6 60 (nI 1)) A6 J B mk sn L xs X) _
                        refine x_ifN_eq (pc := 248) (t := 255) rfl rfl (by decide) (fun c => absurd c (by decide)) (fun _ => ?_)
                        refine x_const (pc := 251) (pc' := 252) (.int (nI 0)) rfl rfl rfl rfl ?_
                        refine x_step (pc := 252) (pc' := 257) rfl rfl rfl rfl ?_
                        refine x_ret (pc := 257) rfl rfl ?_
                        exact kx S6 f6 c6 e6 o6 _ _ (Fr_u (Fr_cons (Fr_u (Fr_u (Fr_u (Fr_refl _ _) (by decide)) (by decide)) (by decide)) x6 (by decide)) (by decide)) (Fr_cons (Fr_refl _ _) y6 (by decide)) (mD_off h6 (Fr_up I6 60 _) (by decide)) rfl
                      · have o6f := ne_true o6
                        have h661 : I6 61 = nI 0 := by
                          rw [h6.1.1, o6f]
                          rfl
                        show mq 113 221 [some (.ref 67), some (.int (nI l)), some (.int (nI p)), some (.int q), some (.int (nI nn)), some (.int (nI (3 * ((8 * l) + p)))), some (.int (nI 1)), none] [.int (nI N)] (hS n u I6 A6 J B mk sn L xs X) _
                        refine x_is2 (pc := 221) (ml' := [some (.ref 67), some (.int (nI l)), some (.int (nI p)), some (.int q), some (.int (nI nn)), some (.int (nI (3 * ((8 * l) + p)))), some (.int (nI 1)), some (.int (nI N))]) rfl rfl ?_
                        refine x_al1 (pc := 223) rfl rfl ?_
                        refine x_al1 (pc := 224) rfl rfl ?_
                        refine g_67_2 (pc := 225) (v := nI 0) rfl rfl h661 ?_
                        refine x_ifN_eq (pc := 228) (t := 235) rfl rfl (by decide) (fun _ => ?_) (fun c => absurd c (by decide))
                        refine x_il2 (pc := 235) rfl rfl ?_
                        refine x_ifN_ge (pc := 237) (t := 244) rfl rfl (by omega) ?_
                        refine x_const (pc := 244) (pc' := 245) (.int (nI 0)) rfl rfl rfl rfl ?_
                        refine x_k (pc := 245) rfl rfl rfl ⟨Nat.le_of_ble_eq_true rfl, Nat.le_of_ble_eq_true rfl, Nat.le_of_ble_eq_true rfl⟩ rfl (k_114 (I := I6) (A := A6) (w := 0) (by decide) ?_)
                        show mq 113 248 [some (.ref 67), some (.int (nI l)), some (.int (nI p)), some (.int q), some (.int (nI nn)), some (.int (nI (3 * ((8 * l) + p)))), some (.int (nI 1)), some (.int (nI N))] [.int (nI 0)] (hS n u (va_up I6 60 (nI 0)) A6 J B mk sn L xs X) _
                        refine x_ifN_eq (pc := 248) (t := 255) rfl rfl (by decide) (fun _ => ?_) (fun c => absurd c (by decide))
                        refine x_il2 (pc := 255) rfl rfl ?_
                        refine x_ret (pc := 257) rfl rfl ?_
                        exact kk S6 f6 c6 e6 o6f _ _ (Fr_u (Fr_cons (Fr_u (Fr_u (Fr_u (Fr_refl _ _) (by decide)) (by decide)) (by decide)) (z6 o6f).1 (by decide)) (by decide)) (Fr_cons (Fr_refl _ A) (z6 o6f).2.1 (by decide)) (mD_off h6 (Fr_up I6 60 _) (by decide)) rfl ((show (va_up I6 60 (nI 0)) 64 = I6 64 from rfl).trans (((z6 o6f).1 64 (by decide)).trans rfl)) (((z6 o6f).2.2).trans (if_pos hp8))
                    · show mq 113 221 [some (.ref 67), some (.int (nI l)), some (.int (nI p)), some (.int q), some (.int (nI nn)), some (.int (nI (3 * ((8 * l) + p)))), some (.int (nI 1)), none] [.int (-1)] (hS n u I6 A6 J B mk sn L xs X) _
                      refine x_is2 (pc := 221) (ml' := [some (.ref 67), some (.int (nI l)), some (.int (nI p)), some (.int q), some (.int (nI nn)), some (.int (nI (3 * ((8 * l) + p)))), some (.int (nI 1)), some (.int (-1))]) rfl rfl ?_
                      refine x_al1 (pc := 223) rfl rfl ?_
                      refine x_al1 (pc := 224) rfl rfl ?_
                      refine g_67_2 (pc := 225) (v := nI 0) rfl rfl ((x6 61 (by decide)).trans h61) ?_
                      refine x_ifN_eq (pc := 228) (t := 235) rfl rfl (by decide) (fun _ => ?_) (fun c => absurd c (by decide))
                      refine x_il2 (pc := 235) rfl rfl ?_
                      refine x_if_ge (pc := 237) (t := 244) rfl rfl rfl (fun c => absurd c (by decide)) (fun _ => ?_)
                      refine x_const (pc := 240) (pc' := 241) (.int (nI 3)) rfl rfl rfl rfl ?_
                      refine x_step (pc := 241) (pc' := 245) rfl rfl rfl rfl ?_
                      refine x_k (pc := 245) rfl rfl rfl ⟨Nat.le_of_ble_eq_true rfl, Nat.le_of_ble_eq_true rfl, Nat.le_of_ble_eq_true rfl⟩ rfl (k_114 (I := I6) (A := A6) (w := 3) (by decide) ?_)
                      show mq 113 248 [some (.ref 67), some (.int (nI l)), some (.int (nI p)), some (.int q), some (.int (nI nn)), some (.int (nI (3 * ((8 * l) + p)))), some (.int (nI 1)), some (.int (-1))] [.int (nI 1)] (hS n u (va_up I6 60 (nI 3)) A6 J B mk sn L xs X) _
                      refine x_ifN_eq (pc := 248) (t := 255) rfl rfl (by decide) (fun c => absurd c (by decide)) (fun _ => ?_)
                      refine x_const (pc := 251) (pc' := 252) (.int (nI 0)) rfl rfl rfl rfl ?_
                      refine x_step (pc := 252) (pc' := 257) rfl rfl rfl rfl ?_
                      refine x_ret (pc := 257) rfl rfl ?_
                      exact kr e6 _ _ (Fr_u (Fr_cons (Fr_u (Fr_u (Fr_u (Fr_refl _ _) (by decide)) (by decide)) (by decide)) x6 (by decide)) (by decide)) (Fr_cons (Fr_refl _ A) y6 (by decide)) rfl ((show (va_up I6 60 (nI 3)) 64 = I6 64 from rfl).trans ((x6 64 (by decide)).trans rfl))
                  · rcases hor with h | h
                    · omega
                    · exact absurd h c174
                · exact absurd ⟨by omega, c123, c137⟩ hns
          · omega
set_option maxRecDepth 100000 in
set_option maxHeartbeats 4000000 in
theorem k_113a {l nn : Nat} {q : Int32} (h61 : I 61 = nI 0) (h64 : I 64 = nI nn) (h1 : 1 ≤ nn) (h4 : nn ≤ 4) (hl : l < 3) {N cn : Nat} {f bc : Nat → Nat} {r : List R5} {S : DS} (hM : mD S I A) (ho : dO S = false) (hG : SG (dD S) l f cn) (hW : ∀ k, k < cn → WS (dD S) (f k) (bc (f k))) (hnx : nxO (dD S) f bc cn = nI N) (hNb : N + 4 < 2 ^ 31) (hr : r.length = nn) (hT : MT 51 A r) {Q : mO × mHp → Prop} (kk : ∀ S' f' cn', apS S l f cn N (nI 255) (nI 0) (nmb N r) = some (S', f', cn') → dO S' = false → ∀ I' A', Fr [60, 62, 63, 64, 65, 66, 67, 68, 71] I I' → Fr [50, 51, 52, 54, 55] A A' → mD S' I' A' → I' 60 = nI 0 → I' 64 = nI 0 → A' 55 = A 55 → Q (.inl (some (.int (nI N))), hS n u I' A' J B mk sn L xs X)) (kx : ∀ S' f' cn', apS S l f cn N (nI 255) (nI 0) (nmb N r) = some (S', f', cn') → dO S' = true → ∀ I' A', Fr [60, 61, 62, 63, 64, 65, 66, 67, 68, 69, 70, 71] I I' → Fr [50, 51, 52, 54, 55, 56] A A' → mD S' I' A' → I' 60 = nI 1 → Q (.inl (some (.int (nI 0))), hS n u I' A' J B mk sn L xs X)) (kr : apS S l f cn N (nI 255) (nI 0) (nmb N r) = none → ∀ I' A', Fr [60, 64, 65, 66, 67, 68, 71] I I' → Fr [51, 52, 54] A A' → I' 60 = nI 3 → I' 64 = nI 0 → Q (.inl (some (.int (nI 0))), hS n u I' A' J B mk sn L xs X)) : mq 113 0 [some (.ref 67), some (.int (nI l)), some (.int (-1)), some (.int q), none, none, none, none] [] (hS n u I A J B mk sn L xs X) Q := by
  refine x_al1 (pc := 0) rfl rfl ?_
  refine g_67_6 (pc := 1) (v := nI nn) rfl rfl h64 ?_
  refine x_is2 (pc := 4) (ml' := [some (.ref 67), some (.int (nI l)), some (.int (-1)), some (.int q), some (.int (nI nn)), none, none, none]) rfl rfl ?_
  refine x_al1 (pc := 6) rfl rfl ?_
  refine x_const (pc := 7) (pc' := 8) (.int (nI 0)) rfl rfl rfl rfl ?_
  refine p_67_6 (pc := 8) rfl rfl ?_
  refine x_al1 (pc := 11) rfl rfl ?_
  refine x_al1 (pc := 12) rfl rfl ?_
  refine g_67_2 (pc := 13) (v := nI 0) rfl rfl h61 ?_
  refine x_ifN_eq (pc := 16) (t := 23) rfl rfl (by decide) (fun _ => ?_) (fun c => absurd c (by decide))
  refine x_il1 (pc := 23) rfl rfl ?_
  refine x_ifN_lt (pc := 24) (t := 56) rfl rfl (by omega) ?_
  refine x_il1 (pc := 27) rfl rfl ?_
  refine x_const (pc := 28) (pc' := 29) (.int (nI 2)) rfl rfl rfl rfl ?_
  refine x_cmpN_gt (pc := 29) (t := 56) rfl rfl (by omega) (by omega) (fun c29 => ?_) (fun c29 => ?_)
  · omega
  · refine x_il1 (pc := 32) rfl rfl ?_
    refine x_const (pc := 33) (pc' := 34) (.int (-1)) rfl rfl rfl rfl ?_
    refine x_cmp_lt (pc := 34) (t := 56) rfl rfl rfl (fun c34 => ?_) (fun c34 => ?_)
    · exact absurd c34 (by decide)
    · refine x_il1 (pc := 37) rfl rfl ?_
      refine x_const (pc := 38) (pc' := 40) (.int (nI 7)) rfl rfl rfl rfl ?_
      refine x_cmp_gt (pc := 40) (t := 56) rfl rfl rfl (fun c40 => ?_) (fun c40 => ?_)
      · exact absurd c40 (by decide)
      · refine x_il1 (pc := 43) rfl rfl ?_
        refine x_if_lt (pc := 44) (t := 51) rfl rfl rfl (fun _ => ?_) (fun c => absurd (by decide) c)
        refine x_il2 (pc := 51) rfl rfl ?_
        refine x_ifN_ne (pc := 53) (t := 60) rfl rfl (by omega) (fun c53 => ?_) (fun c53 => ?_)
        · refine x_const (pc := 60) (pc' := 61) (.int (nI 0)) rfl rfl rfl rfl ?_
          refine x_k (pc := 61) rfl rfl rfl ⟨Nat.le_of_ble_eq_true rfl, Nat.le_of_ble_eq_true rfl, Nat.le_of_ble_eq_true rfl⟩ rfl (k_114 (I := va_up I 64 (nI 0)) (A := A) (w := 0) (by decide) ?_)
          show mq 113 64 [some (.ref 67), some (.int (nI l)), some (.int (-1)), some (.int q), some (.int (nI nn)), none, none, none] [.int (nI 0)] (hS n u (va_up (va_up I 64 (nI 0)) 60 (nI 0)) A J B mk sn L xs X) _
          refine x_ifN_eq (pc := 64) (t := 69) rfl rfl (by decide) (fun _ => ?_) (fun c => absurd c (by decide))
          refine x_il1 (pc := 69) rfl rfl ?_
          refine x_if_ge (pc := 70) (t := 77) rfl rfl rfl (fun c => absurd c (by decide)) (fun _ => ?_)
          refine x_const (pc := 73) (pc' := 74) (.int (nI 0)) rfl rfl rfl rfl ?_
          refine x_step (pc := 74) (pc' := 85) rfl rfl rfl rfl ?_
          refine x_is2 (pc := 85) (ml' := [some (.ref 67), some (.int (nI l)), some (.int (-1)), some (.int q), some (.int (nI nn)), some (.int (nI 0)), none, none]) rfl rfl ?_
          refine x_il1 (pc := 87) rfl rfl ?_
          refine x_if_lt (pc := 88) (t := 107) rfl rfl rfl (fun _ => ?_) (fun c => absurd (by decide) c)
          refine x_const (pc := 107) (pc' := 108) (.int (nI 0)) rfl rfl rfl rfl ?_
          refine x_is2 (pc := 108) (ml' := [some (.ref 67), some (.int (nI l)), some (.int (-1)), some (.int q), some (.int (nI nn)), some (.int (nI 0)), some (.int (nI 0)), none]) rfl rfl ?_
          refine x_il2 (pc := 110) rfl rfl ?_
          refine x_ifN_eq (pc := 112) (t := 150) rfl rfl (by decide) (fun _ => ?_) (fun c => absurd c (by decide))
          refine x_al1 (pc := 150) rfl rfl ?_
          refine x_il2 (pc := 151) rfl rfl ?_
          refine x_ifN_eq (pc := 153) (t := 181) rfl rfl (by decide) (fun _ => ?_) (fun c => absurd c (by decide))
          refine x_const (pc := 181) (pc' := 182) (.int (nI 0)) rfl rfl rfl rfl ?_
          refine x_k (pc := 182) rfl rfl rfl ⟨Nat.le_of_ble_eq_true rfl, Nat.le_of_ble_eq_true rfl, Nat.le_of_ble_eq_true rfl⟩ rfl (k_114 (I := va_up (va_up I 64 (nI 0)) 60 (nI 0)) (A := A) (w := 0) (by decide) ?_)
          show mq 113 185 [some (.ref 67), some (.int (nI l)), some (.int (-1)), some (.int q), some (.int (nI nn)), some (.int (nI 0)), some (.int (nI 0)), none] [.int (nI 0)] (hS n u (va_up (va_up (va_up I 64 (nI 0)) 60 (nI 0)) 60 (nI 0)) A J B mk sn L xs X) _
          refine x_ifN_eq (pc := 185) (t := 190) rfl rfl (by decide) (fun _ => ?_) (fun c => absurd c (by decide))
          refine x_al1 (pc := 190) rfl rfl ?_
          refine x_il1 (pc := 191) rfl rfl ?_
          refine x_al1 (pc := 192) rfl rfl ?_
          refine g_67_5 (pc := 193) rfl rfl ?_
          refine x_il2 (pc := 196) rfl rfl ?_
          refine x_il1 (pc := 198) rfl rfl ?_
          refine x_if_ge (pc := 199) (t := 208) rfl rfl rfl (fun c => absurd c (by decide)) (fun _ => ?_)
          refine x_const (pc := 202) (pc' := 205) (.int (nI 255)) rfl rfl rfl rfl ?_
          refine x_step (pc := 205) (pc' := 209) rfl rfl rfl rfl ?_
          refine x_il1 (pc := 209) rfl rfl ?_
          refine x_if_ge (pc := 210) (t := 217) rfl rfl rfl (fun c => absurd c (by decide)) (fun _ => ?_)
          refine x_const (pc := 213) (pc' := 214) (.int (nI 0)) rfl rfl rfl rfl ?_
          refine x_step (pc := 214) (pc' := 218) rfl rfl rfl rfl ?_
          refine x_k (pc := 218) rfl rfl rfl ⟨Nat.le_of_ble_eq_true rfl, Nat.le_of_ble_eq_true rfl, Nat.le_of_ble_eq_true rfl⟩ rfl (k_115_51 (I := va_up (va_up (va_up I 64 (nI 0)) 60 (nI 0)) 60 (nI 0)) (A := A) (S := S) (l := l) (p := 255) (nn := nn) (N := N) (q := nI 0) (r := r) (f := f) (bc := bc) (mD_on hM ho (show Fr [60, 64] I (va_up (va_up (va_up I 64 (nI 0)) 60 (nI 0)) 60 (nI 0)) from (Fr_u (Fr_u (Fr_u (Fr_refl _ _) (by decide)) (by decide)) (by decide))) (Fr_refl [] A) (by decide) (by decide)) ho (by omega) hG hW hnx hNb hr h1 h4 (by omega) hT (fun S6 f6 c6 e6 I6 A6 x6 y6 h6 z6 b6 => ?_) (fun e6 I6 A6 x6 y6 b6 => ?_))
          · by_cases o6 : dO S6 = true
            · have h661 : I6 61 = nI 1 := by
                rw [h6.1.1, o6]
                rfl
              show mq 113 221 [some (.ref 67), some (.int (nI l)), some (.int (-1)), some (.int q), some (.int (nI nn)), some (.int (nI 0)), some (.int (nI 0)), none] [.int (nI N)] (hS n u I6 A6 J B mk sn L xs X) _
              refine x_is2 (pc := 221) (ml' := [some (.ref 67), some (.int (nI l)), some (.int (-1)), some (.int q), some (.int (nI nn)), some (.int (nI 0)), some (.int (nI 0)), some (.int (nI N))]) rfl rfl ?_
              refine x_al1 (pc := 223) rfl rfl ?_
              refine x_al1 (pc := 224) rfl rfl ?_
              refine g_67_2 (pc := 225) (v := nI 1) rfl rfl h661 ?_
              refine x_ifN_eq (pc := 228) (t := 235) rfl rfl (by decide) (fun c => absurd c (by decide)) (fun _ => ?_)
              refine x_const (pc := 231) (pc' := 232) (.int (nI 1)) rfl rfl rfl rfl ?_
              refine x_step (pc := 232) (pc' := 245) rfl rfl rfl rfl ?_
              refine x_k (pc := 245) rfl rfl rfl ⟨Nat.le_of_ble_eq_true rfl, Nat.le_of_ble_eq_true rfl, Nat.le_of_ble_eq_true rfl⟩ rfl (k_114 (I := I6) (A := A6) (w := 1) (by decide) ?_)
              show mq 113 248 [some (.ref 67), some (.int (nI l)), some (.int (-1)), some (.int q), some (.int (nI nn)), some (.int (nI 0)), some (.int (nI 0)), some (.int (nI N))] [.int (nI 1)] (hS n u (va_up I6 60 (nI 1)) A6 J B mk sn L xs X) _
              refine x_ifN_eq (pc := 248) (t := 255) rfl rfl (by decide) (fun c => absurd c (by decide)) (fun _ => ?_)
              refine x_const (pc := 251) (pc' := 252) (.int (nI 0)) rfl rfl rfl rfl ?_
              refine x_step (pc := 252) (pc' := 257) rfl rfl rfl rfl ?_
              refine x_ret (pc := 257) rfl rfl ?_
              exact kx S6 f6 c6 e6 o6 _ _ (Fr_u (Fr_cons (Fr_u (Fr_u (Fr_u (Fr_refl _ _) (by decide)) (by decide)) (by decide)) x6 (by decide)) (by decide)) (Fr_cons (Fr_refl _ _) y6 (by decide)) (mD_off h6 (Fr_up I6 60 _) (by decide)) rfl
            · have o6f := ne_true o6
              have h661 : I6 61 = nI 0 := by
                rw [h6.1.1, o6f]
                rfl
              show mq 113 221 [some (.ref 67), some (.int (nI l)), some (.int (-1)), some (.int q), some (.int (nI nn)), some (.int (nI 0)), some (.int (nI 0)), none] [.int (nI N)] (hS n u I6 A6 J B mk sn L xs X) _
              refine x_is2 (pc := 221) (ml' := [some (.ref 67), some (.int (nI l)), some (.int (-1)), some (.int q), some (.int (nI nn)), some (.int (nI 0)), some (.int (nI 0)), some (.int (nI N))]) rfl rfl ?_
              refine x_al1 (pc := 223) rfl rfl ?_
              refine x_al1 (pc := 224) rfl rfl ?_
              refine g_67_2 (pc := 225) (v := nI 0) rfl rfl h661 ?_
              refine x_ifN_eq (pc := 228) (t := 235) rfl rfl (by decide) (fun _ => ?_) (fun c => absurd c (by decide))
              refine x_il2 (pc := 235) rfl rfl ?_
              refine x_ifN_ge (pc := 237) (t := 244) rfl rfl (by omega) ?_
              refine x_const (pc := 244) (pc' := 245) (.int (nI 0)) rfl rfl rfl rfl ?_
              refine x_k (pc := 245) rfl rfl rfl ⟨Nat.le_of_ble_eq_true rfl, Nat.le_of_ble_eq_true rfl, Nat.le_of_ble_eq_true rfl⟩ rfl (k_114 (I := I6) (A := A6) (w := 0) (by decide) ?_)
              show mq 113 248 [some (.ref 67), some (.int (nI l)), some (.int (-1)), some (.int q), some (.int (nI nn)), some (.int (nI 0)), some (.int (nI 0)), some (.int (nI N))] [.int (nI 0)] (hS n u (va_up I6 60 (nI 0)) A6 J B mk sn L xs X) _
              refine x_ifN_eq (pc := 248) (t := 255) rfl rfl (by decide) (fun _ => ?_) (fun c => absurd c (by decide))
              refine x_il2 (pc := 255) rfl rfl ?_
              refine x_ret (pc := 257) rfl rfl ?_
              exact kk S6 f6 c6 e6 o6f _ _ (Fr_u (Fr_cons (Fr_u (Fr_u (Fr_u (Fr_refl _ _) (by decide)) (by decide)) (by decide)) (z6 o6f).1 (by decide)) (by decide)) (Fr_cons (Fr_refl _ A) (z6 o6f).2.1 (by decide)) (mD_off h6 (Fr_up I6 60 _) (by decide)) rfl ((show (va_up I6 60 (nI 0)) 64 = I6 64 from rfl).trans (((z6 o6f).1 64 (by decide)).trans rfl)) (((z6 o6f).2.2).trans (if_neg (by decide)))
          · show mq 113 221 [some (.ref 67), some (.int (nI l)), some (.int (-1)), some (.int q), some (.int (nI nn)), some (.int (nI 0)), some (.int (nI 0)), none] [.int (-1)] (hS n u I6 A6 J B mk sn L xs X) _
            refine x_is2 (pc := 221) (ml' := [some (.ref 67), some (.int (nI l)), some (.int (-1)), some (.int q), some (.int (nI nn)), some (.int (nI 0)), some (.int (nI 0)), some (.int (-1))]) rfl rfl ?_
            refine x_al1 (pc := 223) rfl rfl ?_
            refine x_al1 (pc := 224) rfl rfl ?_
            refine g_67_2 (pc := 225) (v := nI 0) rfl rfl ((x6 61 (by decide)).trans h61) ?_
            refine x_ifN_eq (pc := 228) (t := 235) rfl rfl (by decide) (fun _ => ?_) (fun c => absurd c (by decide))
            refine x_il2 (pc := 235) rfl rfl ?_
            refine x_if_ge (pc := 237) (t := 244) rfl rfl rfl (fun c => absurd c (by decide)) (fun _ => ?_)
            refine x_const (pc := 240) (pc' := 241) (.int (nI 3)) rfl rfl rfl rfl ?_
            refine x_step (pc := 241) (pc' := 245) rfl rfl rfl rfl ?_
            refine x_k (pc := 245) rfl rfl rfl ⟨Nat.le_of_ble_eq_true rfl, Nat.le_of_ble_eq_true rfl, Nat.le_of_ble_eq_true rfl⟩ rfl (k_114 (I := I6) (A := A6) (w := 3) (by decide) ?_)
            show mq 113 248 [some (.ref 67), some (.int (nI l)), some (.int (-1)), some (.int q), some (.int (nI nn)), some (.int (nI 0)), some (.int (nI 0)), some (.int (-1))] [.int (nI 1)] (hS n u (va_up I6 60 (nI 3)) A6 J B mk sn L xs X) _
            refine x_ifN_eq (pc := 248) (t := 255) rfl rfl (by decide) (fun c => absurd c (by decide)) (fun _ => ?_)
            refine x_const (pc := 251) (pc' := 252) (.int (nI 0)) rfl rfl rfl rfl ?_
            refine x_step (pc := 252) (pc' := 257) rfl rfl rfl rfl ?_
            refine x_ret (pc := 257) rfl rfl ?_
            exact kr e6 _ _ (Fr_u (Fr_cons (Fr_u (Fr_u (Fr_u (Fr_refl _ _) (by decide)) (by decide)) (by decide)) x6 (by decide)) (by decide)) (Fr_cons (Fr_refl _ A) y6 (by decide)) rfl ((show (va_up I6 60 (nI 3)) 64 = I6 64 from rfl).trans ((x6 64 (by decide)).trans rfl))
        · omega
set_option maxRecDepth 100000 in
set_option maxHeartbeats 4000000 in
theorem k_143x {g l o : Int32} (h61 : I 61 = nI 1) {Q : mO × mHp → Prop} (kk : Q (.inl none, hS n u (va_up I 60 (nI 1)) A J B mk sn L xs X)) : mq 143 0 [some (.ref 67), some (.int g), some (.int l), some (.int o), none] [] (hS n u I A J B mk sn L xs X) Q := by
  refine x_al1 (pc := 0) rfl rfl ?_
  refine x_al1 (pc := 1) rfl rfl ?_
  refine g_67_2 (pc := 2) (v := nI 1) rfl rfl h61 ?_
  refine x_ifN_eq (pc := 5) (t := 12) rfl rfl (by decide) (fun c => absurd c (by decide)) (fun _ => ?_)
  refine x_const (pc := 8) (pc' := 9) (.int (nI 1)) rfl rfl rfl rfl ?_
  refine x_step (pc := 9) (pc' := 25) rfl rfl rfl rfl ?_
  refine x_k (pc := 25) rfl rfl rfl ⟨Nat.le_of_ble_eq_true rfl, Nat.le_of_ble_eq_true rfl, Nat.le_of_ble_eq_true rfl⟩ rfl (k_114 (I := I) (A := A) (w := 1) (by decide) ?_)
  show mq 143 28 [some (.ref 67), some (.int g), some (.int l), some (.int o), none] [.int (nI 1)] (hS n u (va_up I 60 (nI 1)) A J B mk sn L xs X) _
  refine x_ifN_eq (pc := 28) (t := 32) rfl rfl (by decide) (fun c => absurd c (by decide)) (fun _ => ?_)
  refine x_ret (pc := 31) rfl rfl ?_
  exact kk
set_option maxRecDepth 100000 in
set_option maxHeartbeats 4000000 in
theorem k_143b {g l o : Int32} (h61 : I 61 = nI 0) (hx : (g < 0 ∨ nI 8 ≤ g) ∨ (l < 0 ∨ nI 3 ≤ l)) {Q : mO × mHp → Prop} (kk : Q (.inl none, hS n u (va_up I 60 (nI 2)) A J B mk sn L xs X)) : mq 143 0 [some (.ref 67), some (.int g), some (.int l), some (.int o), none] [] (hS n u I A J B mk sn L xs X) Q := by
  refine x_al1 (pc := 0) rfl rfl ?_
  refine x_al1 (pc := 1) rfl rfl ?_
  refine g_67_2 (pc := 2) (v := nI 0) rfl rfl h61 ?_
  refine x_ifN_eq (pc := 5) (t := 12) rfl rfl (by decide) (fun _ => ?_) (fun c => absurd c (by decide))
  refine x_il1 (pc := 12) rfl rfl ?_
  refine x_il1 (pc := 13) rfl rfl ?_
  refine x_k (pc := 14) rfl rfl rfl ⟨Nat.le_of_ble_eq_true rfl, Nat.le_of_ble_eq_true rfl, Nat.le_of_ble_eq_true rfl⟩ rfl (k_144b (I := I) (A := A) hx ?_)
  show mq 143 17 [some (.ref 67), some (.int g), some (.int l), some (.int o), none] [.int (nI 0), .ref 67] (hS n u I A J B mk sn L xs X) _
  refine x_ifN_ne (pc := 17) (t := 24) rfl rfl (by decide) (fun c => absurd c (by decide)) (fun _ => ?_)
  refine x_const (pc := 20) (pc' := 21) (.int (nI 2)) rfl rfl rfl rfl ?_
  refine x_step (pc := 21) (pc' := 25) rfl rfl rfl rfl ?_
  refine x_k (pc := 25) rfl rfl rfl ⟨Nat.le_of_ble_eq_true rfl, Nat.le_of_ble_eq_true rfl, Nat.le_of_ble_eq_true rfl⟩ rfl (k_114 (I := I) (A := A) (w := 2) (by decide) ?_)
  show mq 143 28 [some (.ref 67), some (.int g), some (.int l), some (.int o), none] [.int (nI 1)] (hS n u (va_up I 60 (nI 2)) A J B mk sn L xs X) _
  refine x_ifN_eq (pc := 28) (t := 32) rfl rfl (by decide) (fun c => absurd c (by decide)) (fun _ => ?_)
  refine x_ret (pc := 31) rfl rfl ?_
  exact kk
set_option maxRecDepth 100000 in
set_option maxHeartbeats 4000000 in
theorem k_143o {S : DS} {g l cl : Nat} {fl bl : Nat → Nat} {o : Int32} (hM : mD S I A) (ho : dO S = false) (hg : g < 8) (hl : l < 3) (hGl : SG (dD S) l fl cl) (hWl : ∀ k, k < cl → WS (dD S) (fl k) (bl (fl k))) (hx : o < stO (dD S) fl l cl ∨ ¬ o ≤ nxO (dD S) fl bl cl) {Q : mO × mHp → Prop} (kk : ∀ I' A', Fr [60, 65, 66, 67, 71] I I' → Fr [52] A A' → I' 60 = nI 3 → Q (.inl none, hS n u I' A' J B mk sn L xs X)) : mq 143 0 [some (.ref 67), some (.int (nI g)), some (.int (nI l)), some (.int o), none] [] (hS n u I A J B mk sn L xs X) Q := by
  have h61 : I 61 = nI 0 := by
    rw [hM.1.1, ho]
    rfl
  refine x_al1 (pc := 0) rfl rfl ?_
  refine x_al1 (pc := 1) rfl rfl ?_
  refine g_67_2 (pc := 2) (v := nI 0) rfl rfl h61 ?_
  refine x_ifN_eq (pc := 5) (t := 12) rfl rfl (by decide) (fun _ => ?_) (fun c => absurd c (by decide))
  refine x_il1 (pc := 12) rfl rfl ?_
  refine x_il1 (pc := 13) rfl rfl ?_
  refine x_k (pc := 14) rfl rfl rfl ⟨Nat.le_of_ble_eq_true rfl, Nat.le_of_ble_eq_true rfl, Nat.le_of_ble_eq_true rfl⟩ rfl (k_144 (I := I) (A := A) hg hl ?_)
  show mq 143 17 [some (.ref 67), some (.int (nI g)), some (.int (nI l)), some (.int o), none] [.int (nI 1), .ref 67] (hS n u I A J B mk sn L xs X) _
  refine x_ifN_ne (pc := 17) (t := 24) rfl rfl (by decide) (fun _ => ?_) (fun c => absurd c (by decide))
  refine x_const (pc := 24) (pc' := 25) (.int (nI 0)) rfl rfl rfl rfl ?_
  refine x_k (pc := 25) rfl rfl rfl ⟨Nat.le_of_ble_eq_true rfl, Nat.le_of_ble_eq_true rfl, Nat.le_of_ble_eq_true rfl⟩ rfl (k_114 (I := I) (A := A) (w := 0) (by decide) ?_)
  show mq 143 28 [some (.ref 67), some (.int (nI g)), some (.int (nI l)), some (.int o), none] [.int (nI 0)] (hS n u (va_up I 60 (nI 0)) A J B mk sn L xs X) _
  refine x_ifN_eq (pc := 28) (t := 32) rfl rfl (by decide) (fun _ => ?_) (fun c => absurd c (by decide))
  refine x_al1 (pc := 32) rfl rfl ?_
  refine x_il1 (pc := 33) rfl rfl ?_
  refine x_al1 (pc := 34) rfl rfl ?_
  refine x_il1 (pc := 35) rfl rfl ?_
  refine x_k (pc := 36) rfl rfl rfl ⟨Nat.le_of_ble_eq_true rfl, Nat.le_of_ble_eq_true rfl, Nat.le_of_ble_eq_true rfl⟩ rfl (k_138 (I := va_up I 60 (nI 0)) (A := A) (D := dD S) hM.2.1 (by omega) hGl h61 ?_)
  show mq 143 39 [some (.ref 67), some (.int (nI g)), some (.int (nI l)), some (.int o), none] [.int (stO (dD S) fl l cl), .int o, .ref 67] (hS n u (va_up I 60 (nI 0)) A J B mk sn L xs X) _
  refine x_cmp_lt (pc := 39) (t := 51) rfl rfl rfl (fun c39 => ?_) (fun c39 => ?_)
  · refine x_const (pc := 51) (pc' := 52) (.int (nI 3)) rfl rfl rfl rfl ?_
    refine x_step (pc := 52) (pc' := 56) rfl rfl rfl rfl ?_
    refine x_k (pc := 56) rfl rfl rfl ⟨Nat.le_of_ble_eq_true rfl, Nat.le_of_ble_eq_true rfl, Nat.le_of_ble_eq_true rfl⟩ rfl (k_114 (I := va_up I 60 (nI 0)) (A := A) (w := 3) (by decide) ?_)
    show mq 143 59 [some (.ref 67), some (.int (nI g)), some (.int (nI l)), some (.int o), none] [.int (nI 1)] (hS n u (va_up (va_up I 60 (nI 0)) 60 (nI 3)) A J B mk sn L xs X) _
    refine x_ifN_eq (pc := 59) (t := 63) rfl rfl (by decide) (fun c => absurd c (by decide)) (fun _ => ?_)
    refine x_ret (pc := 62) rfl rfl ?_
    exact kk _ _ (Fr_u (Fr_u (Fr_refl _ _) (by decide)) (by decide)) (Fr_refl _ _) rfl
  · refine x_il1 (pc := 42) rfl rfl ?_
    refine x_al1 (pc := 43) rfl rfl ?_
    refine x_il1 (pc := 44) rfl rfl ?_
    refine x_k (pc := 45) rfl rfl rfl ⟨Nat.le_of_ble_eq_true rfl, Nat.le_of_ble_eq_true rfl, Nat.le_of_ble_eq_true rfl⟩ rfl (k_116u (I := va_up I 60 (nI 0)) (A := A) (D := dD S) (bc := bl) hM.2.1 (by omega) hGl hWl h61 (fun I1 A1 f1 g1 => ?_))
    show mq 143 48 [some (.ref 67), some (.int (nI g)), some (.int (nI l)), some (.int o), none] [.int (nxO (dD S) fl bl cl), .int o, .ref 67] (hS n u I1 A1 J B mk sn L xs X) _
    refine x_cmp_le (pc := 48) (t := 55) rfl rfl rfl (fun c48 => ?_) (fun c48 => ?_)
    · exact absurd hx (fun q => q.elim c39 (fun q => q c48))
    · refine x_const (pc := 51) (pc' := 52) (.int (nI 3)) rfl rfl rfl rfl ?_
      refine x_step (pc := 52) (pc' := 56) rfl rfl rfl rfl ?_
      refine x_k (pc := 56) rfl rfl rfl ⟨Nat.le_of_ble_eq_true rfl, Nat.le_of_ble_eq_true rfl, Nat.le_of_ble_eq_true rfl⟩ rfl (k_114 (I := I1) (A := A1) (w := 3) (by decide) ?_)
      show mq 143 59 [some (.ref 67), some (.int (nI g)), some (.int (nI l)), some (.int o), none] [.int (nI 1)] (hS n u (va_up I1 60 (nI 3)) A1 J B mk sn L xs X) _
      refine x_ifN_eq (pc := 59) (t := 63) rfl rfl (by decide) (fun c => absurd c (by decide)) (fun _ => ?_)
      refine x_ret (pc := 62) rfl rfl ?_
      exact kk _ _ (Fr_u (Fr_cons (Fr_u (Fr_refl _ _) (by decide)) f1 (by decide)) (by decide)) (Fr_cons (Fr_refl _ _) g1 (by decide)) rfl
set_option maxRecDepth 100000 in
set_option maxHeartbeats 4000000 in
theorem k_143 {S : DS} {g l cl : Nat} {fl bl : Nat → Nat} {o : Int32} (hM : mD S I A) (ho : dO S = false) (hg : g < 8) (hl : l < 3) (hGl : SG (dD S) l fl cl) (hWl : ∀ k, k < cl → WS (dD S) (fl k) (bl (fl k))) (hx1 : ¬ o < stO (dD S) fl l cl) (hx2 : o ≤ nxO (dD S) fl bl cl) {N cn : Nat} {f bc : Nat → Nat} (hG : SG (dD S) 3 f cn) (hW : ∀ k, k < cn → WS (dD S) (f k) (bc (f k))) (hnx : nxO (dD S) f bc cn = nI N) (hNb : N + 4 < 2 ^ 31) (h53 : A 53 4 = nI 0 ∧ A 53 16 = nI 0) {Q : mO × mHp → Prop} (kk : ∀ S' f' cn', apS S 3 f cn N (nI 255) (nI 0) (nmb N [(nI 0, nI 0, nI (4 * g + l), o, nI 0)]) = some (S', f', cn') → dO S' = false → ∀ I' A', Fr [60, 62, 63, 65, 66, 67, 68, 71] I I' → Fr [50, 52, 53, 54, 55, 56] A A' → mD S' I' A' → I' 60 = nI 0 → A' 55 = A 55 → A' 56 = upd (A 56) (4 * g + l) (o + 1) → A' 53 4 = nI 0 → A' 53 16 = nI 0 → Q (.inl none, hS n u I' A' J B mk sn L xs X)) (kx : ∀ S' f' cn', apS S 3 f cn N (nI 255) (nI 0) (nmb N [(nI 0, nI 0, nI (4 * g + l), o, nI 0)]) = some (S', f', cn') → dO S' = true → ∀ I' A', Fr [60, 61, 62, 63, 64, 65, 66, 67, 68, 69, 70, 71] I I' → Fr [50, 52, 53, 54, 55, 56] A A' → mD S' I' A' → I' 60 = nI 1 → A' 53 4 = nI 0 → A' 53 16 = nI 0 → Q (.inl none, hS n u I' A' J B mk sn L xs X)) (kr : apS S 3 f cn N (nI 255) (nI 0) (nmb N [(nI 0, nI 0, nI (4 * g + l), o, nI 0)]) = none → ∀ I' A', Fr [60, 65, 66, 67, 68, 71] I I' → Fr [52, 53, 54] A A' → I' 60 = nI 4 → A' 53 4 = nI 0 → A' 53 16 = nI 0 → Q (.inl none, hS n u I' A' J B mk sn L xs X)) : mq 143 0 [some (.ref 67), some (.int (nI g)), some (.int (nI l)), some (.int o), none] [] (hS n u I A J B mk sn L xs X) Q := by
  have h61 : I 61 = nI 0 := by
    rw [hM.1.1, ho]
    rfl
  refine x_al1 (pc := 0) rfl rfl ?_
  refine x_al1 (pc := 1) rfl rfl ?_
  refine g_67_2 (pc := 2) (v := nI 0) rfl rfl h61 ?_
  refine x_ifN_eq (pc := 5) (t := 12) rfl rfl (by decide) (fun _ => ?_) (fun c => absurd c (by decide))
  refine x_il1 (pc := 12) rfl rfl ?_
  refine x_il1 (pc := 13) rfl rfl ?_
  refine x_k (pc := 14) rfl rfl rfl ⟨Nat.le_of_ble_eq_true rfl, Nat.le_of_ble_eq_true rfl, Nat.le_of_ble_eq_true rfl⟩ rfl (k_144 (I := I) (A := A) hg hl ?_)
  show mq 143 17 [some (.ref 67), some (.int (nI g)), some (.int (nI l)), some (.int o), none] [.int (nI 1), .ref 67] (hS n u I A J B mk sn L xs X) _
  refine x_ifN_ne (pc := 17) (t := 24) rfl rfl (by decide) (fun _ => ?_) (fun c => absurd c (by decide))
  refine x_const (pc := 24) (pc' := 25) (.int (nI 0)) rfl rfl rfl rfl ?_
  refine x_k (pc := 25) rfl rfl rfl ⟨Nat.le_of_ble_eq_true rfl, Nat.le_of_ble_eq_true rfl, Nat.le_of_ble_eq_true rfl⟩ rfl (k_114 (I := I) (A := A) (w := 0) (by decide) ?_)
  show mq 143 28 [some (.ref 67), some (.int (nI g)), some (.int (nI l)), some (.int o), none] [.int (nI 0)] (hS n u (va_up I 60 (nI 0)) A J B mk sn L xs X) _
  refine x_ifN_eq (pc := 28) (t := 32) rfl rfl (by decide) (fun _ => ?_) (fun c => absurd c (by decide))
  refine x_al1 (pc := 32) rfl rfl ?_
  refine x_il1 (pc := 33) rfl rfl ?_
  refine x_al1 (pc := 34) rfl rfl ?_
  refine x_il1 (pc := 35) rfl rfl ?_
  refine x_k (pc := 36) rfl rfl rfl ⟨Nat.le_of_ble_eq_true rfl, Nat.le_of_ble_eq_true rfl, Nat.le_of_ble_eq_true rfl⟩ rfl (k_138 (I := va_up I 60 (nI 0)) (A := A) (D := dD S) hM.2.1 (by omega) hGl h61 ?_)
  show mq 143 39 [some (.ref 67), some (.int (nI g)), some (.int (nI l)), some (.int o), none] [.int (stO (dD S) fl l cl), .int o, .ref 67] (hS n u (va_up I 60 (nI 0)) A J B mk sn L xs X) _
  refine x_cmp_lt (pc := 39) (t := 51) rfl rfl rfl (fun c39 => ?_) (fun c39 => ?_)
  · exact absurd c39 hx1
  · refine x_il1 (pc := 42) rfl rfl ?_
    refine x_al1 (pc := 43) rfl rfl ?_
    refine x_il1 (pc := 44) rfl rfl ?_
    refine x_k (pc := 45) rfl rfl rfl ⟨Nat.le_of_ble_eq_true rfl, Nat.le_of_ble_eq_true rfl, Nat.le_of_ble_eq_true rfl⟩ rfl (k_116u (I := va_up I 60 (nI 0)) (A := A) (D := dD S) (bc := bl) hM.2.1 (by omega) hGl hWl h61 (fun I1 A1 f1 g1 => ?_))
    show mq 143 48 [some (.ref 67), some (.int (nI g)), some (.int (nI l)), some (.int o), none] [.int (nxO (dD S) fl bl cl), .int o, .ref 67] (hS n u I1 A1 J B mk sn L xs X) _
    refine x_cmp_le (pc := 48) (t := 55) rfl rfl rfl (fun c48 => ?_) (fun c48 => ?_)
    · refine x_const (pc := 55) (pc' := 56) (.int (nI 0)) rfl rfl rfl rfl ?_
      refine x_k (pc := 56) rfl rfl rfl ⟨Nat.le_of_ble_eq_true rfl, Nat.le_of_ble_eq_true rfl, Nat.le_of_ble_eq_true rfl⟩ rfl (k_114 (I := I1) (A := A1) (w := 0) (by decide) ?_)
      show mq 143 59 [some (.ref 67), some (.int (nI g)), some (.int (nI l)), some (.int o), none] [.int (nI 0)] (hS n u (va_up I1 60 (nI 0)) A1 J B mk sn L xs X) _
      refine x_ifN_eq (pc := 59) (t := 63) rfl rfl (by decide) (fun _ => ?_) (fun c => absurd c (by decide))
      refine x_al1 (pc := 63) rfl rfl ?_
      refine g_67_8 (pc := 64) rfl rfl ?_
      refine x_const (pc := 67) (pc' := 69) (.int (nI 8)) rfl rfl rfl rfl ?_
      refine x_const (pc := 69) (pc' := 70) (.int (nI 4)) rfl rfl rfl rfl ?_
      refine x_il1 (pc := 70) rfl rfl ?_
      refine x_imulN (pc := 71) (c := 4 * g) rfl rfl ?_
      refine x_il1 (pc := 72) rfl rfl ?_
      refine x_iaddN (pc := 73) (c := (4 * g) + l) rfl rfl ?_
      refine as_71 (pc := 74) (q := 8) rfl rfl (by omega) ?_
      refine x_al1 (pc := 75) rfl rfl ?_
      refine g_67_8 (pc := 76) rfl rfl ?_
      refine x_const (pc := 79) (pc' := 81) (.int (nI 12)) rfl rfl rfl rfl ?_
      refine x_il1 (pc := 81) rfl rfl ?_
      refine as_71 (pc := 82) (q := 12) rfl rfl (by omega) ?_
      refine x_al1 (pc := 83) rfl rfl ?_
      refine x_const (pc := 84) (pc' := 85) (.int (nI 3)) rfl rfl rfl rfl ?_
      refine x_al1 (pc := 85) rfl rfl ?_
      refine g_67_8 (pc := 86) rfl rfl ?_
      refine x_const (pc := 89) (pc' := 90) (.int (nI 1)) rfl rfl rfl rfl ?_
      refine x_const (pc := 90) (pc' := 93) (.int (nI 255)) rfl rfl rfl rfl ?_
      refine x_const (pc := 93) (pc' := 94) (.int (nI 0)) rfl rfl rfl rfl ?_
      have hT5 : MT 53 (va_up (va_up A1 53 (upd (A1 53) 8 (nI ((4 * g) + l)))) 53 (upd (upd (A1 53) 8 (nI ((4 * g) + l))) 12 o)) [(nI 0, nI 0, nI (4 * g + l), o, nI 0)] := by
        intro k hk
        have hk0 : k = 0 := by
          have h9 : k < 1 := hk
          omega
        subst hk0
        have e4 : A1 53 4 = nI 0 := by
          rw [g1 53 (by decide)]
          exact h53.1
        have e16 : A1 53 16 = nI 0 := by
          rw [g1 53 (by decide)]
          exact h53.2
        show upd (upd (A1 53) 8 (nI (4 * g + l))) 12 o 4 = nI 0 ∧ upd (upd (A1 53) 8 (nI (4 * g + l))) 12 o 8 = nI (4 * g + l) ∧ upd (upd (A1 53) 8 (nI (4 * g + l))) 12 o 12 = o ∧ upd (upd (A1 53) 8 (nI (4 * g + l))) 12 o 16 = nI 0
        exact ⟨(pk_un (by decide)).trans ((pk_un (by decide)).trans e4), (pk_un (by decide)).trans pk_us, pk_us, (pk_un (by decide)).trans ((pk_un (by decide)).trans e16)⟩
      refine x_k (pc := 94) rfl rfl rfl ⟨Nat.le_of_ble_eq_true rfl, Nat.le_of_ble_eq_true rfl, Nat.le_of_ble_eq_true rfl⟩ rfl (k_115_53 (I := va_up I1 60 (nI 0)) (A := va_up (va_up A1 53 (upd (A1 53) 8 (nI ((4 * g) + l)))) 53 (upd (upd (A1 53) 8 (nI ((4 * g) + l))) 12 o)) (S := S) (l := 3) (p := 255) (nn := 1) (N := N) (q := nI 0) (r := [(nI 0, nI 0, nI (4 * g + l), o, nI 0)]) (f := f) (bc := bc) (mD_on hM ho (show Fr [60, 65, 66, 67, 71] I (va_up I1 60 (nI 0)) from (Fr_u (Fr_cons (Fr_u (Fr_refl _ _) (by decide)) f1 (by decide)) (by decide))) (show Fr [52, 53] A (va_up (va_up A1 53 (upd (A1 53) 8 (nI ((4 * g) + l)))) 53 (upd (upd (A1 53) 8 (nI ((4 * g) + l))) 12 o)) from (Fr_u (Fr_u (Fr_cons (Fr_refl _ _) g1 (by decide)) (by decide)) (by decide))) (by decide) (by decide)) ho (by decide) hG hW hnx hNb rfl (by decide) (by decide) (by decide) hT5 (fun S6 f6 c6 e6 I6 A6 x6 y6 h6 z6 b6 => ?_) (fun e6 I6 A6 x6 y6 b6 => ?_))
      · by_cases o6 : dO S6 = true
        · have h661 : I6 61 = nI 1 := by
            rw [h6.1.1, o6]
            rfl
          show mq 143 97 [some (.ref 67), some (.int (nI g)), some (.int (nI l)), some (.int o), none] [.int (nI N)] (hS n u I6 A6 J B mk sn L xs X) _
          refine x_is2 (pc := 97) (ml' := [some (.ref 67), some (.int (nI g)), some (.int (nI l)), some (.int o), some (.int (nI N))]) rfl rfl ?_
          refine x_al1 (pc := 99) rfl rfl ?_
          refine x_al1 (pc := 100) rfl rfl ?_
          refine g_67_2 (pc := 101) (v := nI 1) rfl rfl h661 ?_
          refine x_ifN_eq (pc := 104) (t := 111) rfl rfl (by decide) (fun c => absurd c (by decide)) (fun _ => ?_)
          refine x_const (pc := 107) (pc' := 108) (.int (nI 1)) rfl rfl rfl rfl ?_
          refine x_step (pc := 108) (pc' := 121) rfl rfl rfl rfl ?_
          refine x_k (pc := 121) rfl rfl rfl ⟨Nat.le_of_ble_eq_true rfl, Nat.le_of_ble_eq_true rfl, Nat.le_of_ble_eq_true rfl⟩ rfl (k_114 (I := I6) (A := A6) (w := 1) (by decide) ?_)
          show mq 143 124 [some (.ref 67), some (.int (nI g)), some (.int (nI l)), some (.int o), some (.int (nI N))] [.int (nI 1)] (hS n u (va_up I6 60 (nI 1)) A6 J B mk sn L xs X) _
          refine x_ifN_eq (pc := 124) (t := 128) rfl rfl (by decide) (fun c => absurd c (by decide)) (fun _ => ?_)
          refine x_ret (pc := 127) rfl rfl ?_
          exact kx S6 f6 c6 e6 o6 _ _ (Fr_u (Fr_cons (Fr_u (Fr_cons (Fr_u (Fr_refl _ _) (by decide)) f1 (by decide)) (by decide)) x6 (by decide)) (by decide)) (Fr_cons (Fr_u (Fr_u (Fr_cons (Fr_refl _ _) g1 (by decide)) (by decide)) (by decide)) y6 (by decide)) (mD_off h6 (Fr_up I6 60 _) (by decide)) rfl (show A6 53 4 = nI 0 from (b6 0 (by decide)).2.1) (show A6 53 16 = nI 0 from (b6 0 (by decide)).2.2.2.2)
        · have o6f := ne_true o6
          have h661 : I6 61 = nI 0 := by
            rw [h6.1.1, o6f]
            rfl
          show mq 143 97 [some (.ref 67), some (.int (nI g)), some (.int (nI l)), some (.int o), none] [.int (nI N)] (hS n u I6 A6 J B mk sn L xs X) _
          refine x_is2 (pc := 97) (ml' := [some (.ref 67), some (.int (nI g)), some (.int (nI l)), some (.int o), some (.int (nI N))]) rfl rfl ?_
          refine x_al1 (pc := 99) rfl rfl ?_
          refine x_al1 (pc := 100) rfl rfl ?_
          refine g_67_2 (pc := 101) (v := nI 0) rfl rfl h661 ?_
          refine x_ifN_eq (pc := 104) (t := 111) rfl rfl (by decide) (fun _ => ?_) (fun c => absurd c (by decide))
          refine x_il2 (pc := 111) rfl rfl ?_
          refine x_ifN_ge (pc := 113) (t := 120) rfl rfl (by omega) ?_
          refine x_const (pc := 120) (pc' := 121) (.int (nI 0)) rfl rfl rfl rfl ?_
          refine x_k (pc := 121) rfl rfl rfl ⟨Nat.le_of_ble_eq_true rfl, Nat.le_of_ble_eq_true rfl, Nat.le_of_ble_eq_true rfl⟩ rfl (k_114 (I := I6) (A := A6) (w := 0) (by decide) ?_)
          show mq 143 124 [some (.ref 67), some (.int (nI g)), some (.int (nI l)), some (.int o), some (.int (nI N))] [.int (nI 0)] (hS n u (va_up I6 60 (nI 0)) A6 J B mk sn L xs X) _
          refine x_ifN_eq (pc := 124) (t := 128) rfl rfl (by decide) (fun _ => ?_) (fun c => absurd c (by decide))
          refine x_al1 (pc := 128) rfl rfl ?_
          refine g_67_15 (pc := 129) rfl rfl ?_
          refine x_const (pc := 132) (pc' := 133) (.int (nI 4)) rfl rfl rfl rfl ?_
          refine x_il1 (pc := 133) rfl rfl ?_
          refine x_imulN (pc := 134) (c := 4 * g) rfl rfl ?_
          refine x_il1 (pc := 135) rfl rfl ?_
          refine x_iaddN (pc := 136) (c := (4 * g) + l) rfl rfl ?_
          refine x_il1 (pc := 137) rfl rfl ?_
          refine x_const (pc := 138) (pc' := 139) (.int (nI 1)) rfl rfl rfl rfl ?_
          refine x_iadd (pc := 139) rfl rfl ?_
          refine as_74 (pc := 140) (q := (4 * g) + l) rfl rfl (by omega) ?_
          refine x_ret (pc := 141) rfl rfl ?_
          exact kk S6 f6 c6 e6 o6f _ _ (Fr_u (Fr_cons (Fr_cons (Fr_refl _ I) (show Fr [60, 65, 66, 67, 71] I (va_up I1 60 (nI 0)) from (Fr_u (Fr_cons (Fr_u (Fr_refl _ _) (by decide)) f1 (by decide)) (by decide))) (by decide)) (z6 o6f).1 (by decide)) (by decide)) (Fr_u (Fr_cons (Fr_cons (Fr_refl _ A) (show Fr [52, 53] A (va_up (va_up A1 53 (upd (A1 53) 8 (nI ((4 * g) + l)))) 53 (upd (upd (A1 53) 8 (nI ((4 * g) + l))) 12 o)) from (Fr_u (Fr_u (Fr_cons (Fr_refl _ _) g1 (by decide)) (by decide)) (by decide))) (by decide)) (z6 o6f).2.1 (by decide)) (by decide)) (mD_on h6 o6f (Fr_up I6 60 _) (Fr_up A6 56 _) (by decide) (by decide)) rfl (show A6 55 = A 55 from ((z6 o6f).2.2).trans ((if_neg (by decide)).trans ((show Fr [52, 53] A (va_up (va_up A1 53 (upd (A1 53) 8 (nI ((4 * g) + l)))) 53 (upd (upd (A1 53) 8 (nI ((4 * g) + l))) 12 o)) from (Fr_u (Fr_u (Fr_cons (Fr_refl _ _) g1 (by decide)) (by decide)) (by decide))) 55 (by decide)))) (show upd (A6 56) (4 * g + l) (o + 1) = upd (A 56) (4 * g + l) (o + 1) by rw [(z6 o6f).2.1 56 (by decide), (show Fr [52, 53] A (va_up (va_up A1 53 (upd (A1 53) 8 (nI ((4 * g) + l)))) 53 (upd (upd (A1 53) 8 (nI ((4 * g) + l))) 12 o)) from (Fr_u (Fr_u (Fr_cons (Fr_refl _ _) g1 (by decide)) (by decide)) (by decide))) 56 (by decide)]) (show A6 53 4 = nI 0 from (b6 0 (by decide)).2.1) (show A6 53 16 = nI 0 from (b6 0 (by decide)).2.2.2.2)
      · show mq 143 97 [some (.ref 67), some (.int (nI g)), some (.int (nI l)), some (.int o), none] [.int (-1)] (hS n u I6 A6 J B mk sn L xs X) _
        refine x_is2 (pc := 97) (ml' := [some (.ref 67), some (.int (nI g)), some (.int (nI l)), some (.int o), some (.int (-1))]) rfl rfl ?_
        refine x_al1 (pc := 99) rfl rfl ?_
        refine x_al1 (pc := 100) rfl rfl ?_
        refine g_67_2 (pc := 101) (v := nI 0) rfl rfl ((x6 61 (by decide)).trans ((f1 61 (by decide)).trans h61)) ?_
        refine x_ifN_eq (pc := 104) (t := 111) rfl rfl (by decide) (fun _ => ?_) (fun c => absurd c (by decide))
        refine x_il2 (pc := 111) rfl rfl ?_
        refine x_if_ge (pc := 113) (t := 120) rfl rfl rfl (fun c => absurd c (by decide)) (fun _ => ?_)
        refine x_const (pc := 116) (pc' := 117) (.int (nI 4)) rfl rfl rfl rfl ?_
        refine x_step (pc := 117) (pc' := 121) rfl rfl rfl rfl ?_
        refine x_k (pc := 121) rfl rfl rfl ⟨Nat.le_of_ble_eq_true rfl, Nat.le_of_ble_eq_true rfl, Nat.le_of_ble_eq_true rfl⟩ rfl (k_114 (I := I6) (A := A6) (w := 4) (by decide) ?_)
        show mq 143 124 [some (.ref 67), some (.int (nI g)), some (.int (nI l)), some (.int o), some (.int (-1))] [.int (nI 1)] (hS n u (va_up I6 60 (nI 4)) A6 J B mk sn L xs X) _
        refine x_ifN_eq (pc := 124) (t := 128) rfl rfl (by decide) (fun c => absurd c (by decide)) (fun _ => ?_)
        refine x_ret (pc := 127) rfl rfl ?_
        exact kr e6 _ _ (Fr_u (Fr_cons (Fr_cons (Fr_refl _ I) (show Fr [60, 65, 66, 67, 71] I (va_up I1 60 (nI 0)) from (Fr_u (Fr_cons (Fr_u (Fr_refl _ _) (by decide)) f1 (by decide)) (by decide))) (by decide)) x6 (by decide)) (by decide)) (Fr_cons (Fr_cons (Fr_refl _ A) (show Fr [52, 53] A (va_up (va_up A1 53 (upd (A1 53) 8 (nI ((4 * g) + l)))) 53 (upd (upd (A1 53) 8 (nI ((4 * g) + l))) 12 o)) from (Fr_u (Fr_u (Fr_cons (Fr_refl _ _) g1 (by decide)) (by decide)) (by decide))) (by decide)) y6 (by decide)) rfl (show A6 53 4 = nI 0 from (b6 0 (by decide)).2.1) (show A6 53 16 = nI 0 from (b6 0 (by decide)).2.2.2.2)
    · exact absurd hx2 c48
end S57
