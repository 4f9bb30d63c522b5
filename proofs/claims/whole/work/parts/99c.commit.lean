/-! commit keeps what holds. -/
/-- commit as the law makes it, then the model's: the same code, and all holds again -/
def twn (mj : Nat) (mlm : mLs) (k n u : Nat) (L : Nat) (xs : Nat → Int32) : mO × mHp → Prop := fun o => ∃ cd n1 u1 I1 A1 J1 B1 mk1 sn1 X1, o = (.inl (some (.int (nI cd))), hS n1 u1 I1 A1 J1 B1 mk1 sn1 L xs X1) ∧ cd < 5 ∧ n ≤ n1 ∧ n1 ≤ n + 1 ∧ u1 ≤ u + 6 ∧ mq mj 0 mlm [] (hS n1 u1 I1 A1 J1 B1 mk1 sn1 L xs X1) (fun o2 => ∃ S2 I2 A2, o2 = (.inl none, hS n1 u1 I2 A2 J1 B1 mk1 sn1 L xs X1) ∧ I2 60 = nI cd ∧ INV k S2 I2 A2 mk1 sn1)
theorem BC_fr {b : Nat} {I I' : Nat → Int32} {A A' : Nat → Nat → Int32} {l : List R5} {X Y : List Nat} (h : BC b I A l) (f : Fr X I I') (g : Fr Y A A') (hx : 22 + 3 * b ∉ X) (hy : 10 + 5 * b ∉ Y ∧ 11 + 5 * b ∉ Y ∧ 12 + 5 * b ∉ Y ∧ 13 + 5 * b ∉ Y ∧ 14 + 5 * b ∉ Y) : BC b I' A' l := by
  refine ⟨(f _ hx).trans h.1, fun x hx => ?_⟩
  rw [g _ hy.1, g _ hy.2.1, g _ hy.2.2.1, g _ hy.2.2.2.1, g _ hy.2.2.2.2]
  exact h.2 x hx
theorem INV_w2 {k k' : Nat} {S S' : DS} {I I' : Nat → Int32} {A A' : Nat → Nat → Int32} {mk sn : Nat} {F : Nat → Nat → Nat} {bc c N : Nat → Nat} {X Y : List Nat} (h : INV k S I A mk sn) (of : dO S' = false) (hK : rgK S' I' ∧ DK (A' 0) (dD S')) (hM : rgM S' I' ∧ DK (A' 50) (dD S')) (f : Fr X I I') (g : Fr Y A A') (hx : 11 ∉ X ∧ 16 ∉ X ∧ 64 ∉ X ∧ 69 ∉ X ∧ 70 ∉ X) (hy : (∀ r, r < 5 → 5 + r ∉ Y) ∧ 51 ∉ Y ∧ 57 ∉ Y) (h53 : A' 53 4 = nI 0 ∧ A' 53 16 = nI 0) (hB : ∀ l, BC (bi mk) I A l → BC (bi mk) I' A' l) (hO : ON k' S' I' A' F bc c N) : INV k' S' I' A' mk sn := by
  obtain ⟨_, _, hm, ⟨l, l4, lg, lB, l64, lT⟩, ⟨fl, f1, f2, f3⟩, h11, _, _, _⟩ := h
  exact ⟨hK, hM, hm, ⟨l, l4, lg, hB l lB, (f 64 hx.2.2.1).trans l64, fun x hx' => by rw [g 51 hy.2.1]; exact lT x hx'⟩, ⟨fl, f1, FC_fr f2 f g hx.2.1 (hy.1 0 (by decide)) (hy.1 1 (by decide)) (hy.1 2 (by decide)) (hy.1 3 (by decide)) (hy.1 4 (by decide)), FM_fr2 f3 f g hx.2.2.2.1 hy.2.2⟩, ((f 11 hx.1).trans h11).trans (f 70 hx.2.2.2.2).symm, h53, fun _ => ⟨F, bc, c, N, hO⟩, fun q => by rw [of] at q; exact Bool.noConfusion q⟩
theorem KNW_c {A A' : Nat → Nat → Int32} {Y : List Nat} {x : Nat} {o : Int32} (h : KNW A) (g : Fr Y A A') (hy : ∀ l, l < 4 → 31 + 4 * l ∉ Y ∧ 32 + 4 * l ∉ Y ∧ 33 + 4 * l ∉ Y) (e55 : A' 55 = A 55) (e1 : A' 1 = upd (A 1) x o) (e56 : A' 56 = upd (A 56) x (o + 1)) : KNW A' := by
  obtain ⟨⟨a, ha⟩, ⟨cc, hc⟩⟩ := h
  refine ⟨⟨a, fun l hl => ⟨KC_fr (ha l hl).1 g (hy l hl), KM_eq (ha l hl).2.1 (fun x _ _ => by rw [e55]), (ha l hl).2.2⟩⟩, ⟨upd cc x o, fun y hy' => ?_⟩⟩
  rw [e1, e56]
  by_cases e : y = x
  · rw [e, pk_us, pk_us, pk_us]
    exact ⟨rfl, rfl⟩
  · rw [pk_un e, pk_un e, pk_un e]
    exact hc y hy'
section S99c
variable {n u : Nat} {I : Nat → Int32} {A : Nat → Nat → Int32} {J : Int64} {B : Nat → Int64} {mk sn L : Nat} {xs : Nat → Int32} {X : Nat → mC} {D : Nat → Nat} {S : DS} {k : Nat}
set_option maxRecDepth 100000 in
set_option maxHeartbeats 4000000 in
theorem co_53_0 (h : INV k S I A 53 60) (of : dO S = false) (hk : k ≤ 1000) (hn : 77 ≤ n ∧ n < 10000) (hu : u + 6 < 1000000) {g : Nat} {o : Int32} (hg : g < 8) : mq 88 0 [some (.ref 1), some (.int (nI g)), some (.int (nI 0)), some (.int o), none] [] (hS n u I A J B 53 60 L xs X) (wQ0 cd87 B L xs (twn 143 [some (.ref 67), some (.int (nI g)), some (.int (nI 0)), some (.int o), none] (k + 1) n u L xs)) := by
  obtain ⟨⟨k1, k2⟩, ⟨m1, m2⟩, hmk, _, _, _, h53, hon, _⟩ := id h
  have h61 : I 61 = nI 0 := by
    rw [m1.1, of]
    rfl
  have hkD : kD 53 S I A := kD_of of ⟨k1, k2⟩
  obtain ⟨F, bc, c, N, hW, hNk, hLK, hKN⟩ := hon of
  have hON : ON k S I A F bc c N := ⟨hW, hNk, hLK, hKN⟩
  have hWl := hW.1 0 (by decide)
  have hKl := hLK 0 (by decide)
  have hW3 := hW.1 3 (by decide)
  have hK := hLK 3 (by decide)
  have hNb : N 3 + 4 < 2 ^ 31 := by
    have := hNk 3 (by decide)
    omega
  by_cases hx : o < stO (dD S) (F 0) 0 (c 0) ∨ ¬ o ≤ nxO (dD S) (F 0) bc (c 0)
  · refine k_88o_0 hkD of hg hKl.2.2.1 hKl.2.2.2 hx hn hu (Or.inr ⟨12, n, u + 6, I, A, J, 53, 60, X, rfl, hn.1, by decide, by decide, ?_⟩)
    refine ⟨3, n + 1, u + 6, I, A, J, B, 53, 60, _, rfl, by decide, by omega, by omega, by omega, ?_⟩
    exact k_143o ⟨m1, m2, fun q => by rw [of] at q; exact Bool.noConfusion q⟩ of hg (by decide) hWl.1 hWl.2.1 hx (fun I2 A2 f2 g2 e60 => ⟨S, I2, A2, rfl, e60, INV_r h (Fr_cons (Fr_refl _ I) f2 (by decide)) (Fr_cons (Fr_refl _ A) g2 (by decide))⟩)
  · have hx1 : ¬ o < stO (dD S) (F 0) 0 (c 0) := fun q => hx (Or.inl q)
    have hx2 : o ≤ nxO (dD S) (F 0) bc (c 0) := Decidable.byContradiction (fun q => hx (Or.inr q))
    have hl1 : 1 ≤ (nmb (N 3) [(nI 0, nI 0, nI (4 * g + 0), o, nI 0)]).length := by
      rw [nmb_len]
      exact Nat.le_refl 1
    have hl4 : (nmb (N 3) [(nI 0, nI 0, nI (4 * g + 0), o, nI 0)]).length ≤ 4 := by
      rw [nmb_len]
      exact (by decide : 1 ≤ 4)
    have hnum : ∀ y, y < (nmb (N 3) [(nI 0, nI 0, nI (4 * g + 0), o, nI 0)]).length → (gR (nmb (N 3) [(nI 0, nI 0, nI (4 * g + 0), o, nI 0)]) y).1 = nI (N 3 + y) := fun y hy => by
      rw [gR_nmb _ (N 3) y (by rw [nmb_len] at hy; exact hy)]
    have hgd : ∀ r ∈ [(nI 0, nI 0, nI (4 * g + 0), o, nI 0)], gd r := fun r hr => by
      rw [List.mem_singleton.mp hr]
      exact Or.inl rfl
    have hkey : ∀ r ∈ [(nI 0, nI 0, nI (4 * g + 0), o, nI 0)], ∃ y, y < 32 ∧ r.2.2.1 = nI y := fun r hr => ⟨4 * g + 0, by omega, by rw [List.mem_singleton.mp hr]⟩
    refine k_88_60_0 hkD of hg hKl.2.2.1 hKl.2.2.2 hx1 hx2 (cn := c 3) (N := N 3) (f := F 3) (SG_le hW3.1) hK.1 (fun y hy => (hW3.1.1 y hy).1) hK.2.1 (hK.2.2.2.trans (WL_nx hW3)) hNb (SG_room hW3.1) hn hu ?_ ?_ ?_
    · intro S' f' cn' ha oR I1 A1 f1 g1 hk1 e51 e49 esl e1
      refine Or.inl ⟨n, u, I1, A1, J, 53, 60, X, rfl, ?_⟩
      refine ⟨0, n, u, I1, A1, J, B, 53, 60, X, rfl, by decide, by omega, by omega, by omega, ?_⟩
      refine k_143 (mD_of of m1 m2 f1 g1 (by decide) (by decide)) of hg (l := 0) (by decide) hWl.1 hWl.2.1 hx1 hx2 hW3.1 hW3.2.1 (WL_nx hW3) hNb ⟨by rw [g1 53 (by decide)]; exact h53.1, by rw [g1 53 (by decide)]; exact h53.2⟩ ?_ ?_ ?_
      · intro S2 f2' cn2' ha2 o2 I2 A2 f2 g2 hm2 e60 e55 e56 ez1 ez2
        have eS1 : S2 = S' := (congrArg Prod.fst (Option.some.inj (ha.symm.trans ha2))).symm
        subst eS1
        obtain ⟨bc', hw⟩ := (ap_WFD (x := nmb (N 3) [(nI 0, nI 0, nI (4 * g + 0), o, nI 0)]) hW of (by decide) hl1 hl4 (nmb_gd hgd _) hnum (fun _ => nmb_key hkey _) hNb ha).1 oR
        have hab := ap_b hW (by decide) hl4 hNb ha oR
        rw [nmb_len] at hw
        have fI := Fr_cons (Fr_cons (Fr_refl [2, 3, 14, 15, 49, 51, 29, 30, 31, 60, 62, 63, 65, 66, 67, 68, 71] I) f1 (by decide)) f2 (by decide)
        have gA := Fr_cons (Fr_cons (Fr_refl [0, 1, 3, 4, 42, 25, 26, 27, 28, 29, 50, 52, 53, 54, 55, 56] A) g1 (by decide)) g2 (by decide)
        have hwl := hw.1 3 (by decide)
        rw [upl_s, upl_s, upl_s] at hwl
        have hL : LK 3 (dD S2) f' bc' cn' I2 A2 := ⟨(f2 49 (by decide)).trans e49, fun j hj => by rw [g2 42 (by decide)]; exact esl j hj, (fI 50 (by decide)).trans (hK.2.2.1.trans hab.2.symm), (f2 51 (by decide)).trans (e51.trans (WL_nx hwl).symm)⟩
        have hwo : ∀ m, m < 4 → ¬ m = 3 → WL (dD S2) m (F m) bc' (c m) (N m) := fun m hm e => by
          have h1 := hw.1 m hm
          rw [upl_n e, upl_n e, upl_n e] at h1
          exact h1
        have hN4 : ∀ x, x < 4 → upl N 3 (N 3 + 1) x ≤ 4 * (k + 1) := fun x hx => by
          have h1 := hNk x hx
          have h2 := hNk 3 (by decide)
          by_cases e : x = 3
          · rw [e, upl_s]
            omega
          · rw [upl_n e]
            omega
        have hKN2 : KNW A2 := KNW_c (x := 4 * g + 0) (o := o) hKN gA (by decide) (by rw [e55, g1 55 (by decide)]) ((g2 1 (by decide)).trans e1) (by rw [e56, g1 56 (by decide)])
        exact ⟨S2, I2, A2, rfl, e60, INV_w2 h oR ⟨rgK_lo hk1.1 (Lo_fr f2 (by decide)), by rw [g2 0 (by decide)]; exact hk1.2.1⟩ ⟨hm2.1, hm2.2.1⟩ fI gA (by decide) (by decide) ⟨ez1, ez2⟩ (fun l hl => (BC_fr (b := 2) hl fI gA (by decide) (by decide) : BC 2 I2 A2 l)) (⟨hw, hN4, LK_upl hLK hW.1 hwo (fun m hm _ hc => hab.1 m hm hc) hL fI gA (by decide) (by decide), hKN2⟩ : ON (k + 1) S2 I2 A2 (upl F 3 f') bc' (upl c 3 cn') (upl N 3 (N 3 + 1)))⟩
      · intro S2 f2' cn2' ha2 o2
        have eS1 : S2 = S' := (congrArg Prod.fst (Option.some.inj (ha.symm.trans ha2))).symm
        rw [eS1, oR] at o2
        exact Bool.noConfusion o2
      · intro ha2
        rw [ha] at ha2
        exact absurd ha2 (by simp)
    · intro S' f' cn' ha oR I1 A1 f1 g1 hk1
      refine Or.inr ⟨9, n, u + 6, I1, A1, J, 53, 60, X, rfl, hn.1, by decide, by decide, ?_⟩
      refine ⟨1, n + 1, u + 6, I1, A1, J, B, 53, 60, _, rfl, by decide, by omega, by omega, by omega, ?_⟩
      refine k_143 (mD_up of m1 m2 f1 g1) of hg (l := 0) (by decide) hWl.1 hWl.2.1 hx1 hx2 hW3.1 hW3.2.1 (WL_nx hW3) hNb ⟨by rw [g1 53 (by decide)]; exact h53.1, by rw [g1 53 (by decide)]; exact h53.2⟩ ?_ ?_ ?_
      · intro S2 f2' cn2' ha2 o2
        have eS1 : S2 = S' := (congrArg Prod.fst (Option.some.inj (ha.symm.trans ha2))).symm
        rw [eS1, oR] at o2
        exact Bool.noConfusion o2
      · intro S2 f2' cn2' ha2 o2 I2 A2 f2 g2 hm2 e60 ez1 ez2
        have eS1 : S2 = S' := (congrArg Prod.fst (Option.some.inj (ha.symm.trans ha2))).symm
        subst eS1
        obtain ⟨F', bc', c', hw⟩ := (ap_WFD (x := nmb (N 3) [(nI 0, nI 0, nI (4 * g + 0), o, nI 0)]) hW of (by decide) hl1 hl4 (nmb_gd hgd _) hnum (fun _ => nmb_key hkey _) hNb ha).2 oR
        exact ⟨S2, I2, A2, rfl, e60, INV_off hmk oR hk1 hm2 (Lo_fr f2 (by decide)) (Lo_fr g2 (by decide)) ⟨ez1, ez2⟩ (Or.inl ⟨rfl, rfl⟩) hw (fun x hx => by have := hNk x hx; omega)⟩
      · intro ha2
        rw [ha] at ha2
        exact absurd ha2 (by simp)
    · intro ha I1 A1 f1 g1
      refine Or.inr ⟨11, n, u + 6, I1, A1, J, 53, 60, X, rfl, hn.1, by decide, by decide, ?_⟩
      refine ⟨4, n + 1, u + 6, I1, A1, J, B, 53, 60, _, rfl, by decide, by omega, by omega, by omega, ?_⟩
      refine k_143 (mD_of of m1 m2 f1 g1 (by decide) (by decide)) of hg (l := 0) (by decide) hWl.1 hWl.2.1 hx1 hx2 hW3.1 hW3.2.1 (WL_nx hW3) hNb ⟨by rw [g1 53 (by decide)]; exact h53.1, by rw [g1 53 (by decide)]; exact h53.2⟩ ?_ ?_ ?_
      · intro S2 f2' cn2' ha2
        rw [ha] at ha2
        exact absurd ha2 (by simp)
      · intro S2 f2' cn2' ha2
        rw [ha] at ha2
        exact absurd ha2 (by simp)
      · intro _ I2 A2 f2 g2 e60 ez1 ez2
        have fI := Fr_cons (Fr_cons (Fr_refl [14, 29, 30, 31, 60, 65, 66, 67, 68, 71] I) f1 (by decide)) f2 (by decide)
        have gA := Fr_cons (Fr_cons (Fr_refl [3, 25, 26, 27, 28, 29, 52, 53, 54] A) g1 (by decide)) g2 (by decide)
        exact ⟨S, I2, A2, rfl, e60, INV_w2 h of ⟨rgK_fr k1 fI (by decide), by rw [gA 0 (by decide)]; exact k2⟩ ⟨rgM_fr m1 fI (by decide), by rw [gA 50 (by decide)]; exact m2⟩ fI gA (by decide) (by decide) ⟨ez1, ez2⟩ (fun l hl => (BC_fr (b := 2) hl fI gA (by decide) (by decide) : BC 2 I2 A2 l)) (ON_fr hON (Nat.le_succ k) fI gA (fun r h1 h2 => by simp; omega) ⟨fun r h1 h2 => by simp; omega, by decide, by decide, by decide⟩)⟩
set_option maxRecDepth 100000 in
set_option maxHeartbeats 4000000 in
theorem co_53_1 (h : INV k S I A 53 60) (of : dO S = false) (hk : k ≤ 1000) (hn : 77 ≤ n ∧ n < 10000) (hu : u + 6 < 1000000) {g : Nat} {o : Int32} (hg : g < 8) : mq 88 0 [some (.ref 1), some (.int (nI g)), some (.int (nI 1)), some (.int o), none] [] (hS n u I A J B 53 60 L xs X) (wQ0 cd87 B L xs (twn 143 [some (.ref 67), some (.int (nI g)), some (.int (nI 1)), some (.int o), none] (k + 1) n u L xs)) := by
  obtain ⟨⟨k1, k2⟩, ⟨m1, m2⟩, hmk, _, _, _, h53, hon, _⟩ := id h
  have h61 : I 61 = nI 0 := by
    rw [m1.1, of]
    rfl
  have hkD : kD 53 S I A := kD_of of ⟨k1, k2⟩
  obtain ⟨F, bc, c, N, hW, hNk, hLK, hKN⟩ := hon of
  have hON : ON k S I A F bc c N := ⟨hW, hNk, hLK, hKN⟩
  have hWl := hW.1 1 (by decide)
  have hKl := hLK 1 (by decide)
  have hW3 := hW.1 3 (by decide)
  have hK := hLK 3 (by decide)
  have hNb : N 3 + 4 < 2 ^ 31 := by
    have := hNk 3 (by decide)
    omega
  by_cases hx : o < stO (dD S) (F 1) 1 (c 1) ∨ ¬ o ≤ nxO (dD S) (F 1) bc (c 1)
  · refine k_88o_1 hkD of hg hKl.2.2.1 hKl.2.2.2 hx hn hu (Or.inr ⟨12, n, u + 6, I, A, J, 53, 60, X, rfl, hn.1, by decide, by decide, ?_⟩)
    refine ⟨3, n + 1, u + 6, I, A, J, B, 53, 60, _, rfl, by decide, by omega, by omega, by omega, ?_⟩
    exact k_143o ⟨m1, m2, fun q => by rw [of] at q; exact Bool.noConfusion q⟩ of hg (by decide) hWl.1 hWl.2.1 hx (fun I2 A2 f2 g2 e60 => ⟨S, I2, A2, rfl, e60, INV_r h (Fr_cons (Fr_refl _ I) f2 (by decide)) (Fr_cons (Fr_refl _ A) g2 (by decide))⟩)
  · have hx1 : ¬ o < stO (dD S) (F 1) 1 (c 1) := fun q => hx (Or.inl q)
    have hx2 : o ≤ nxO (dD S) (F 1) bc (c 1) := Decidable.byContradiction (fun q => hx (Or.inr q))
    have hl1 : 1 ≤ (nmb (N 3) [(nI 0, nI 0, nI (4 * g + 1), o, nI 0)]).length := by
      rw [nmb_len]
      exact Nat.le_refl 1
    have hl4 : (nmb (N 3) [(nI 0, nI 0, nI (4 * g + 1), o, nI 0)]).length ≤ 4 := by
      rw [nmb_len]
      exact (by decide : 1 ≤ 4)
    have hnum : ∀ y, y < (nmb (N 3) [(nI 0, nI 0, nI (4 * g + 1), o, nI 0)]).length → (gR (nmb (N 3) [(nI 0, nI 0, nI (4 * g + 1), o, nI 0)]) y).1 = nI (N 3 + y) := fun y hy => by
      rw [gR_nmb _ (N 3) y (by rw [nmb_len] at hy; exact hy)]
    have hgd : ∀ r ∈ [(nI 0, nI 0, nI (4 * g + 1), o, nI 0)], gd r := fun r hr => by
      rw [List.mem_singleton.mp hr]
      exact Or.inl rfl
    have hkey : ∀ r ∈ [(nI 0, nI 0, nI (4 * g + 1), o, nI 0)], ∃ y, y < 32 ∧ r.2.2.1 = nI y := fun r hr => ⟨4 * g + 1, by omega, by rw [List.mem_singleton.mp hr]⟩
    refine k_88_60_1 hkD of hg hKl.2.2.1 hKl.2.2.2 hx1 hx2 (cn := c 3) (N := N 3) (f := F 3) (SG_le hW3.1) hK.1 (fun y hy => (hW3.1.1 y hy).1) hK.2.1 (hK.2.2.2.trans (WL_nx hW3)) hNb (SG_room hW3.1) hn hu ?_ ?_ ?_
    · intro S' f' cn' ha oR I1 A1 f1 g1 hk1 e51 e49 esl e1
      refine Or.inl ⟨n, u, I1, A1, J, 53, 60, X, rfl, ?_⟩
      refine ⟨0, n, u, I1, A1, J, B, 53, 60, X, rfl, by decide, by omega, by omega, by omega, ?_⟩
      refine k_143 (mD_of of m1 m2 f1 g1 (by decide) (by decide)) of hg (l := 1) (by decide) hWl.1 hWl.2.1 hx1 hx2 hW3.1 hW3.2.1 (WL_nx hW3) hNb ⟨by rw [g1 53 (by decide)]; exact h53.1, by rw [g1 53 (by decide)]; exact h53.2⟩ ?_ ?_ ?_
      · intro S2 f2' cn2' ha2 o2 I2 A2 f2 g2 hm2 e60 e55 e56 ez1 ez2
        have eS1 : S2 = S' := (congrArg Prod.fst (Option.some.inj (ha.symm.trans ha2))).symm
        subst eS1
        obtain ⟨bc', hw⟩ := (ap_WFD (x := nmb (N 3) [(nI 0, nI 0, nI (4 * g + 1), o, nI 0)]) hW of (by decide) hl1 hl4 (nmb_gd hgd _) hnum (fun _ => nmb_key hkey _) hNb ha).1 oR
        have hab := ap_b hW (by decide) hl4 hNb ha oR
        rw [nmb_len] at hw
        have fI := Fr_cons (Fr_cons (Fr_refl [2, 3, 14, 15, 49, 51, 29, 30, 31, 60, 62, 63, 65, 66, 67, 68, 71] I) f1 (by decide)) f2 (by decide)
        have gA := Fr_cons (Fr_cons (Fr_refl [0, 1, 3, 4, 42, 25, 26, 27, 28, 29, 50, 52, 53, 54, 55, 56] A) g1 (by decide)) g2 (by decide)
        have hwl := hw.1 3 (by decide)
        rw [upl_s, upl_s, upl_s] at hwl
        have hL : LK 3 (dD S2) f' bc' cn' I2 A2 := ⟨(f2 49 (by decide)).trans e49, fun j hj => by rw [g2 42 (by decide)]; exact esl j hj, (fI 50 (by decide)).trans (hK.2.2.1.trans hab.2.symm), (f2 51 (by decide)).trans (e51.trans (WL_nx hwl).symm)⟩
        have hwo : ∀ m, m < 4 → ¬ m = 3 → WL (dD S2) m (F m) bc' (c m) (N m) := fun m hm e => by
          have h1 := hw.1 m hm
          rw [upl_n e, upl_n e, upl_n e] at h1
          exact h1
        have hN4 : ∀ x, x < 4 → upl N 3 (N 3 + 1) x ≤ 4 * (k + 1) := fun x hx => by
          have h1 := hNk x hx
          have h2 := hNk 3 (by decide)
          by_cases e : x = 3
          · rw [e, upl_s]
            omega
          · rw [upl_n e]
            omega
        have hKN2 : KNW A2 := KNW_c (x := 4 * g + 1) (o := o) hKN gA (by decide) (by rw [e55, g1 55 (by decide)]) ((g2 1 (by decide)).trans e1) (by rw [e56, g1 56 (by decide)])
        exact ⟨S2, I2, A2, rfl, e60, INV_w2 h oR ⟨rgK_lo hk1.1 (Lo_fr f2 (by decide)), by rw [g2 0 (by decide)]; exact hk1.2.1⟩ ⟨hm2.1, hm2.2.1⟩ fI gA (by decide) (by decide) ⟨ez1, ez2⟩ (fun l hl => (BC_fr (b := 2) hl fI gA (by decide) (by decide) : BC 2 I2 A2 l)) (⟨hw, hN4, LK_upl hLK hW.1 hwo (fun m hm _ hc => hab.1 m hm hc) hL fI gA (by decide) (by decide), hKN2⟩ : ON (k + 1) S2 I2 A2 (upl F 3 f') bc' (upl c 3 cn') (upl N 3 (N 3 + 1)))⟩
      · intro S2 f2' cn2' ha2 o2
        have eS1 : S2 = S' := (congrArg Prod.fst (Option.some.inj (ha.symm.trans ha2))).symm
        rw [eS1, oR] at o2
        exact Bool.noConfusion o2
      · intro ha2
        rw [ha] at ha2
        exact absurd ha2 (by simp)
    · intro S' f' cn' ha oR I1 A1 f1 g1 hk1
      refine Or.inr ⟨9, n, u + 6, I1, A1, J, 53, 60, X, rfl, hn.1, by decide, by decide, ?_⟩
      refine ⟨1, n + 1, u + 6, I1, A1, J, B, 53, 60, _, rfl, by decide, by omega, by omega, by omega, ?_⟩
      refine k_143 (mD_up of m1 m2 f1 g1) of hg (l := 1) (by decide) hWl.1 hWl.2.1 hx1 hx2 hW3.1 hW3.2.1 (WL_nx hW3) hNb ⟨by rw [g1 53 (by decide)]; exact h53.1, by rw [g1 53 (by decide)]; exact h53.2⟩ ?_ ?_ ?_
      · intro S2 f2' cn2' ha2 o2
        have eS1 : S2 = S' := (congrArg Prod.fst (Option.some.inj (ha.symm.trans ha2))).symm
        rw [eS1, oR] at o2
        exact Bool.noConfusion o2
      · intro S2 f2' cn2' ha2 o2 I2 A2 f2 g2 hm2 e60 ez1 ez2
        have eS1 : S2 = S' := (congrArg Prod.fst (Option.some.inj (ha.symm.trans ha2))).symm
        subst eS1
        obtain ⟨F', bc', c', hw⟩ := (ap_WFD (x := nmb (N 3) [(nI 0, nI 0, nI (4 * g + 1), o, nI 0)]) hW of (by decide) hl1 hl4 (nmb_gd hgd _) hnum (fun _ => nmb_key hkey _) hNb ha).2 oR
        exact ⟨S2, I2, A2, rfl, e60, INV_off hmk oR hk1 hm2 (Lo_fr f2 (by decide)) (Lo_fr g2 (by decide)) ⟨ez1, ez2⟩ (Or.inl ⟨rfl, rfl⟩) hw (fun x hx => by have := hNk x hx; omega)⟩
      · intro ha2
        rw [ha] at ha2
        exact absurd ha2 (by simp)
    · intro ha I1 A1 f1 g1
      refine Or.inr ⟨11, n, u + 6, I1, A1, J, 53, 60, X, rfl, hn.1, by decide, by decide, ?_⟩
      refine ⟨4, n + 1, u + 6, I1, A1, J, B, 53, 60, _, rfl, by decide, by omega, by omega, by omega, ?_⟩
      refine k_143 (mD_of of m1 m2 f1 g1 (by decide) (by decide)) of hg (l := 1) (by decide) hWl.1 hWl.2.1 hx1 hx2 hW3.1 hW3.2.1 (WL_nx hW3) hNb ⟨by rw [g1 53 (by decide)]; exact h53.1, by rw [g1 53 (by decide)]; exact h53.2⟩ ?_ ?_ ?_
      · intro S2 f2' cn2' ha2
        rw [ha] at ha2
        exact absurd ha2 (by simp)
      · intro S2 f2' cn2' ha2
        rw [ha] at ha2
        exact absurd ha2 (by simp)
      · intro _ I2 A2 f2 g2 e60 ez1 ez2
        have fI := Fr_cons (Fr_cons (Fr_refl [14, 29, 30, 31, 60, 65, 66, 67, 68, 71] I) f1 (by decide)) f2 (by decide)
        have gA := Fr_cons (Fr_cons (Fr_refl [3, 25, 26, 27, 28, 29, 52, 53, 54] A) g1 (by decide)) g2 (by decide)
        exact ⟨S, I2, A2, rfl, e60, INV_w2 h of ⟨rgK_fr k1 fI (by decide), by rw [gA 0 (by decide)]; exact k2⟩ ⟨rgM_fr m1 fI (by decide), by rw [gA 50 (by decide)]; exact m2⟩ fI gA (by decide) (by decide) ⟨ez1, ez2⟩ (fun l hl => (BC_fr (b := 2) hl fI gA (by decide) (by decide) : BC 2 I2 A2 l)) (ON_fr hON (Nat.le_succ k) fI gA (fun r h1 h2 => by simp; omega) ⟨fun r h1 h2 => by simp; omega, by decide, by decide, by decide⟩)⟩
set_option maxRecDepth 100000 in
set_option maxHeartbeats 4000000 in
theorem co_53_2 (h : INV k S I A 53 60) (of : dO S = false) (hk : k ≤ 1000) (hn : 77 ≤ n ∧ n < 10000) (hu : u + 6 < 1000000) {g : Nat} {o : Int32} (hg : g < 8) : mq 88 0 [some (.ref 1), some (.int (nI g)), some (.int (nI 2)), some (.int o), none] [] (hS n u I A J B 53 60 L xs X) (wQ0 cd87 B L xs (twn 143 [some (.ref 67), some (.int (nI g)), some (.int (nI 2)), some (.int o), none] (k + 1) n u L xs)) := by
  obtain ⟨⟨k1, k2⟩, ⟨m1, m2⟩, hmk, _, _, _, h53, hon, _⟩ := id h
  have h61 : I 61 = nI 0 := by
    rw [m1.1, of]
    rfl
  have hkD : kD 53 S I A := kD_of of ⟨k1, k2⟩
  obtain ⟨F, bc, c, N, hW, hNk, hLK, hKN⟩ := hon of
  have hON : ON k S I A F bc c N := ⟨hW, hNk, hLK, hKN⟩
  have hWl := hW.1 2 (by decide)
  have hKl := hLK 2 (by decide)
  have hW3 := hW.1 3 (by decide)
  have hK := hLK 3 (by decide)
  have hNb : N 3 + 4 < 2 ^ 31 := by
    have := hNk 3 (by decide)
    omega
  by_cases hx : o < stO (dD S) (F 2) 2 (c 2) ∨ ¬ o ≤ nxO (dD S) (F 2) bc (c 2)
  · refine k_88o_2 hkD of hg hKl.2.2.1 hKl.2.2.2 hx hn hu (Or.inr ⟨12, n, u + 6, I, A, J, 53, 60, X, rfl, hn.1, by decide, by decide, ?_⟩)
    refine ⟨3, n + 1, u + 6, I, A, J, B, 53, 60, _, rfl, by decide, by omega, by omega, by omega, ?_⟩
    exact k_143o ⟨m1, m2, fun q => by rw [of] at q; exact Bool.noConfusion q⟩ of hg (by decide) hWl.1 hWl.2.1 hx (fun I2 A2 f2 g2 e60 => ⟨S, I2, A2, rfl, e60, INV_r h (Fr_cons (Fr_refl _ I) f2 (by decide)) (Fr_cons (Fr_refl _ A) g2 (by decide))⟩)
  · have hx1 : ¬ o < stO (dD S) (F 2) 2 (c 2) := fun q => hx (Or.inl q)
    have hx2 : o ≤ nxO (dD S) (F 2) bc (c 2) := Decidable.byContradiction (fun q => hx (Or.inr q))
    have hl1 : 1 ≤ (nmb (N 3) [(nI 0, nI 0, nI (4 * g + 2), o, nI 0)]).length := by
      rw [nmb_len]
      exact Nat.le_refl 1
    have hl4 : (nmb (N 3) [(nI 0, nI 0, nI (4 * g + 2), o, nI 0)]).length ≤ 4 := by
      rw [nmb_len]
      exact (by decide : 1 ≤ 4)
    have hnum : ∀ y, y < (nmb (N 3) [(nI 0, nI 0, nI (4 * g + 2), o, nI 0)]).length → (gR (nmb (N 3) [(nI 0, nI 0, nI (4 * g + 2), o, nI 0)]) y).1 = nI (N 3 + y) := fun y hy => by
      rw [gR_nmb _ (N 3) y (by rw [nmb_len] at hy; exact hy)]
    have hgd : ∀ r ∈ [(nI 0, nI 0, nI (4 * g + 2), o, nI 0)], gd r := fun r hr => by
      rw [List.mem_singleton.mp hr]
      exact Or.inl rfl
    have hkey : ∀ r ∈ [(nI 0, nI 0, nI (4 * g + 2), o, nI 0)], ∃ y, y < 32 ∧ r.2.2.1 = nI y := fun r hr => ⟨4 * g + 2, by omega, by rw [List.mem_singleton.mp hr]⟩
    refine k_88_60_2 hkD of hg hKl.2.2.1 hKl.2.2.2 hx1 hx2 (cn := c 3) (N := N 3) (f := F 3) (SG_le hW3.1) hK.1 (fun y hy => (hW3.1.1 y hy).1) hK.2.1 (hK.2.2.2.trans (WL_nx hW3)) hNb (SG_room hW3.1) hn hu ?_ ?_ ?_
    · intro S' f' cn' ha oR I1 A1 f1 g1 hk1 e51 e49 esl e1
      refine Or.inl ⟨n, u, I1, A1, J, 53, 60, X, rfl, ?_⟩
      refine ⟨0, n, u, I1, A1, J, B, 53, 60, X, rfl, by decide, by omega, by omega, by omega, ?_⟩
      refine k_143 (mD_of of m1 m2 f1 g1 (by decide) (by decide)) of hg (l := 2) (by decide) hWl.1 hWl.2.1 hx1 hx2 hW3.1 hW3.2.1 (WL_nx hW3) hNb ⟨by rw [g1 53 (by decide)]; exact h53.1, by rw [g1 53 (by decide)]; exact h53.2⟩ ?_ ?_ ?_
      · intro S2 f2' cn2' ha2 o2 I2 A2 f2 g2 hm2 e60 e55 e56 ez1 ez2
        have eS1 : S2 = S' := (congrArg Prod.fst (Option.some.inj (ha.symm.trans ha2))).symm
        subst eS1
        obtain ⟨bc', hw⟩ := (ap_WFD (x := nmb (N 3) [(nI 0, nI 0, nI (4 * g + 2), o, nI 0)]) hW of (by decide) hl1 hl4 (nmb_gd hgd _) hnum (fun _ => nmb_key hkey _) hNb ha).1 oR
        have hab := ap_b hW (by decide) hl4 hNb ha oR
        rw [nmb_len] at hw
        have fI := Fr_cons (Fr_cons (Fr_refl [2, 3, 14, 15, 49, 51, 29, 30, 31, 60, 62, 63, 65, 66, 67, 68, 71] I) f1 (by decide)) f2 (by decide)
        have gA := Fr_cons (Fr_cons (Fr_refl [0, 1, 3, 4, 42, 25, 26, 27, 28, 29, 50, 52, 53, 54, 55, 56] A) g1 (by decide)) g2 (by decide)
        have hwl := hw.1 3 (by decide)
        rw [upl_s, upl_s, upl_s] at hwl
        have hL : LK 3 (dD S2) f' bc' cn' I2 A2 := ⟨(f2 49 (by decide)).trans e49, fun j hj => by rw [g2 42 (by decide)]; exact esl j hj, (fI 50 (by decide)).trans (hK.2.2.1.trans hab.2.symm), (f2 51 (by decide)).trans (e51.trans (WL_nx hwl).symm)⟩
        have hwo : ∀ m, m < 4 → ¬ m = 3 → WL (dD S2) m (F m) bc' (c m) (N m) := fun m hm e => by
          have h1 := hw.1 m hm
          rw [upl_n e, upl_n e, upl_n e] at h1
          exact h1
        have hN4 : ∀ x, x < 4 → upl N 3 (N 3 + 1) x ≤ 4 * (k + 1) := fun x hx => by
          have h1 := hNk x hx
          have h2 := hNk 3 (by decide)
          by_cases e : x = 3
          · rw [e, upl_s]
            omega
          · rw [upl_n e]
            omega
        have hKN2 : KNW A2 := KNW_c (x := 4 * g + 2) (o := o) hKN gA (by decide) (by rw [e55, g1 55 (by decide)]) ((g2 1 (by decide)).trans e1) (by rw [e56, g1 56 (by decide)])
        exact ⟨S2, I2, A2, rfl, e60, INV_w2 h oR ⟨rgK_lo hk1.1 (Lo_fr f2 (by decide)), by rw [g2 0 (by decide)]; exact hk1.2.1⟩ ⟨hm2.1, hm2.2.1⟩ fI gA (by decide) (by decide) ⟨ez1, ez2⟩ (fun l hl => (BC_fr (b := 2) hl fI gA (by decide) (by decide) : BC 2 I2 A2 l)) (⟨hw, hN4, LK_upl hLK hW.1 hwo (fun m hm _ hc => hab.1 m hm hc) hL fI gA (by decide) (by decide), hKN2⟩ : ON (k + 1) S2 I2 A2 (upl F 3 f') bc' (upl c 3 cn') (upl N 3 (N 3 + 1)))⟩
      · intro S2 f2' cn2' ha2 o2
        have eS1 : S2 = S' := (congrArg Prod.fst (Option.some.inj (ha.symm.trans ha2))).symm
        rw [eS1, oR] at o2
        exact Bool.noConfusion o2
      · intro ha2
        rw [ha] at ha2
        exact absurd ha2 (by simp)
    · intro S' f' cn' ha oR I1 A1 f1 g1 hk1
      refine Or.inr ⟨9, n, u + 6, I1, A1, J, 53, 60, X, rfl, hn.1, by decide, by decide, ?_⟩
      refine ⟨1, n + 1, u + 6, I1, A1, J, B, 53, 60, _, rfl, by decide, by omega, by omega, by omega, ?_⟩
      refine k_143 (mD_up of m1 m2 f1 g1) of hg (l := 2) (by decide) hWl.1 hWl.2.1 hx1 hx2 hW3.1 hW3.2.1 (WL_nx hW3) hNb ⟨by rw [g1 53 (by decide)]; exact h53.1, by rw [g1 53 (by decide)]; exact h53.2⟩ ?_ ?_ ?_
      · intro S2 f2' cn2' ha2 o2
        have eS1 : S2 = S' := (congrArg Prod.fst (Option.some.inj (ha.symm.trans ha2))).symm
        rw [eS1, oR] at o2
        exact Bool.noConfusion o2
      · intro S2 f2' cn2' ha2 o2 I2 A2 f2 g2 hm2 e60 ez1 ez2
        have eS1 : S2 = S' := (congrArg Prod.fst (Option.some.inj (ha.symm.trans ha2))).symm
        subst eS1
        obtain ⟨F', bc', c', hw⟩ := (ap_WFD (x := nmb (N 3) [(nI 0, nI 0, nI (4 * g + 2), o, nI 0)]) hW of (by decide) hl1 hl4 (nmb_gd hgd _) hnum (fun _ => nmb_key hkey _) hNb ha).2 oR
        exact ⟨S2, I2, A2, rfl, e60, INV_off hmk oR hk1 hm2 (Lo_fr f2 (by decide)) (Lo_fr g2 (by decide)) ⟨ez1, ez2⟩ (Or.inl ⟨rfl, rfl⟩) hw (fun x hx => by have := hNk x hx; omega)⟩
      · intro ha2
        rw [ha] at ha2
        exact absurd ha2 (by simp)
    · intro ha I1 A1 f1 g1
      refine Or.inr ⟨11, n, u + 6, I1, A1, J, 53, 60, X, rfl, hn.1, by decide, by decide, ?_⟩
      refine ⟨4, n + 1, u + 6, I1, A1, J, B, 53, 60, _, rfl, by decide, by omega, by omega, by omega, ?_⟩
      refine k_143 (mD_of of m1 m2 f1 g1 (by decide) (by decide)) of hg (l := 2) (by decide) hWl.1 hWl.2.1 hx1 hx2 hW3.1 hW3.2.1 (WL_nx hW3) hNb ⟨by rw [g1 53 (by decide)]; exact h53.1, by rw [g1 53 (by decide)]; exact h53.2⟩ ?_ ?_ ?_
      · intro S2 f2' cn2' ha2
        rw [ha] at ha2
        exact absurd ha2 (by simp)
      · intro S2 f2' cn2' ha2
        rw [ha] at ha2
        exact absurd ha2 (by simp)
      · intro _ I2 A2 f2 g2 e60 ez1 ez2
        have fI := Fr_cons (Fr_cons (Fr_refl [14, 29, 30, 31, 60, 65, 66, 67, 68, 71] I) f1 (by decide)) f2 (by decide)
        have gA := Fr_cons (Fr_cons (Fr_refl [3, 25, 26, 27, 28, 29, 52, 53, 54] A) g1 (by decide)) g2 (by decide)
        exact ⟨S, I2, A2, rfl, e60, INV_w2 h of ⟨rgK_fr k1 fI (by decide), by rw [gA 0 (by decide)]; exact k2⟩ ⟨rgM_fr m1 fI (by decide), by rw [gA 50 (by decide)]; exact m2⟩ fI gA (by decide) (by decide) ⟨ez1, ez2⟩ (fun l hl => (BC_fr (b := 2) hl fI gA (by decide) (by decide) : BC 2 I2 A2 l)) (ON_fr hON (Nat.le_succ k) fI gA (fun r h1 h2 => by simp; omega) ⟨fun r h1 h2 => by simp; omega, by decide, by decide, by decide⟩)⟩
set_option maxRecDepth 100000 in
set_option maxHeartbeats 4000000 in
theorem co_60_0 (h : INV k S I A 60 53) (of : dO S = false) (hk : k ≤ 1000) (hn : 77 ≤ n ∧ n < 10000) (hu : u + 6 < 1000000) {g : Nat} {o : Int32} (hg : g < 8) : mq 88 0 [some (.ref 1), some (.int (nI g)), some (.int (nI 0)), some (.int o), none] [] (hS n u I A J B 60 53 L xs X) (wQ0 cd87 B L xs (twn 143 [some (.ref 67), some (.int (nI g)), some (.int (nI 0)), some (.int o), none] (k + 1) n u L xs)) := by
  obtain ⟨⟨k1, k2⟩, ⟨m1, m2⟩, hmk, _, _, _, h53, hon, _⟩ := id h
  have h61 : I 61 = nI 0 := by
    rw [m1.1, of]
    rfl
  have hkD : kD 60 S I A := kD_of of ⟨k1, k2⟩
  obtain ⟨F, bc, c, N, hW, hNk, hLK, hKN⟩ := hon of
  have hON : ON k S I A F bc c N := ⟨hW, hNk, hLK, hKN⟩
  have hWl := hW.1 0 (by decide)
  have hKl := hLK 0 (by decide)
  have hW3 := hW.1 3 (by decide)
  have hK := hLK 3 (by decide)
  have hNb : N 3 + 4 < 2 ^ 31 := by
    have := hNk 3 (by decide)
    omega
  by_cases hx : o < stO (dD S) (F 0) 0 (c 0) ∨ ¬ o ≤ nxO (dD S) (F 0) bc (c 0)
  · refine k_88o_0 hkD of hg hKl.2.2.1 hKl.2.2.2 hx hn hu (Or.inr ⟨12, n, u + 6, I, A, J, 60, 53, X, rfl, hn.1, by decide, by decide, ?_⟩)
    refine ⟨3, n + 1, u + 6, I, A, J, B, 60, 53, _, rfl, by decide, by omega, by omega, by omega, ?_⟩
    exact k_143o ⟨m1, m2, fun q => by rw [of] at q; exact Bool.noConfusion q⟩ of hg (by decide) hWl.1 hWl.2.1 hx (fun I2 A2 f2 g2 e60 => ⟨S, I2, A2, rfl, e60, INV_r h (Fr_cons (Fr_refl _ I) f2 (by decide)) (Fr_cons (Fr_refl _ A) g2 (by decide))⟩)
  · have hx1 : ¬ o < stO (dD S) (F 0) 0 (c 0) := fun q => hx (Or.inl q)
    have hx2 : o ≤ nxO (dD S) (F 0) bc (c 0) := Decidable.byContradiction (fun q => hx (Or.inr q))
    have hl1 : 1 ≤ (nmb (N 3) [(nI 0, nI 0, nI (4 * g + 0), o, nI 0)]).length := by
      rw [nmb_len]
      exact Nat.le_refl 1
    have hl4 : (nmb (N 3) [(nI 0, nI 0, nI (4 * g + 0), o, nI 0)]).length ≤ 4 := by
      rw [nmb_len]
      exact (by decide : 1 ≤ 4)
    have hnum : ∀ y, y < (nmb (N 3) [(nI 0, nI 0, nI (4 * g + 0), o, nI 0)]).length → (gR (nmb (N 3) [(nI 0, nI 0, nI (4 * g + 0), o, nI 0)]) y).1 = nI (N 3 + y) := fun y hy => by
      rw [gR_nmb _ (N 3) y (by rw [nmb_len] at hy; exact hy)]
    have hgd : ∀ r ∈ [(nI 0, nI 0, nI (4 * g + 0), o, nI 0)], gd r := fun r hr => by
      rw [List.mem_singleton.mp hr]
      exact Or.inl rfl
    have hkey : ∀ r ∈ [(nI 0, nI 0, nI (4 * g + 0), o, nI 0)], ∃ y, y < 32 ∧ r.2.2.1 = nI y := fun r hr => ⟨4 * g + 0, by omega, by rw [List.mem_singleton.mp hr]⟩
    refine k_88_53_0 hkD of hg hKl.2.2.1 hKl.2.2.2 hx1 hx2 (cn := c 3) (N := N 3) (f := F 3) (SG_le hW3.1) hK.1 (fun y hy => (hW3.1.1 y hy).1) hK.2.1 (hK.2.2.2.trans (WL_nx hW3)) hNb (SG_room hW3.1) hn hu ?_ ?_ ?_
    · intro S' f' cn' ha oR I1 A1 f1 g1 hk1 e51 e49 esl e1
      refine Or.inl ⟨n, u, I1, A1, J, 60, 53, X, rfl, ?_⟩
      refine ⟨0, n, u, I1, A1, J, B, 60, 53, X, rfl, by decide, by omega, by omega, by omega, ?_⟩
      refine k_143 (mD_of of m1 m2 f1 g1 (by decide) (by decide)) of hg (l := 0) (by decide) hWl.1 hWl.2.1 hx1 hx2 hW3.1 hW3.2.1 (WL_nx hW3) hNb ⟨by rw [g1 53 (by decide)]; exact h53.1, by rw [g1 53 (by decide)]; exact h53.2⟩ ?_ ?_ ?_
      · intro S2 f2' cn2' ha2 o2 I2 A2 f2 g2 hm2 e60 e55 e56 ez1 ez2
        have eS1 : S2 = S' := (congrArg Prod.fst (Option.some.inj (ha.symm.trans ha2))).symm
        subst eS1
        obtain ⟨bc', hw⟩ := (ap_WFD (x := nmb (N 3) [(nI 0, nI 0, nI (4 * g + 0), o, nI 0)]) hW of (by decide) hl1 hl4 (nmb_gd hgd _) hnum (fun _ => nmb_key hkey _) hNb ha).1 oR
        have hab := ap_b hW (by decide) hl4 hNb ha oR
        rw [nmb_len] at hw
        have fI := Fr_cons (Fr_cons (Fr_refl [2, 3, 14, 15, 49, 51, 26, 27, 28, 60, 62, 63, 65, 66, 67, 68, 71] I) f1 (by decide)) f2 (by decide)
        have gA := Fr_cons (Fr_cons (Fr_refl [0, 1, 3, 4, 42, 20, 21, 22, 23, 24, 50, 52, 53, 54, 55, 56] A) g1 (by decide)) g2 (by decide)
        have hwl := hw.1 3 (by decide)
        rw [upl_s, upl_s, upl_s] at hwl
        have hL : LK 3 (dD S2) f' bc' cn' I2 A2 := ⟨(f2 49 (by decide)).trans e49, fun j hj => by rw [g2 42 (by decide)]; exact esl j hj, (fI 50 (by decide)).trans (hK.2.2.1.trans hab.2.symm), (f2 51 (by decide)).trans (e51.trans (WL_nx hwl).symm)⟩
        have hwo : ∀ m, m < 4 → ¬ m = 3 → WL (dD S2) m (F m) bc' (c m) (N m) := fun m hm e => by
          have h1 := hw.1 m hm
          rw [upl_n e, upl_n e, upl_n e] at h1
          exact h1
        have hN4 : ∀ x, x < 4 → upl N 3 (N 3 + 1) x ≤ 4 * (k + 1) := fun x hx => by
          have h1 := hNk x hx
          have h2 := hNk 3 (by decide)
          by_cases e : x = 3
          · rw [e, upl_s]
            omega
          · rw [upl_n e]
            omega
        have hKN2 : KNW A2 := KNW_c (x := 4 * g + 0) (o := o) hKN gA (by decide) (by rw [e55, g1 55 (by decide)]) ((g2 1 (by decide)).trans e1) (by rw [e56, g1 56 (by decide)])
        exact ⟨S2, I2, A2, rfl, e60, INV_w2 h oR ⟨rgK_lo hk1.1 (Lo_fr f2 (by decide)), by rw [g2 0 (by decide)]; exact hk1.2.1⟩ ⟨hm2.1, hm2.2.1⟩ fI gA (by decide) (by decide) ⟨ez1, ez2⟩ (fun l hl => (BC_fr (b := 3) hl fI gA (by decide) (by decide) : BC 3 I2 A2 l)) (⟨hw, hN4, LK_upl hLK hW.1 hwo (fun m hm _ hc => hab.1 m hm hc) hL fI gA (by decide) (by decide), hKN2⟩ : ON (k + 1) S2 I2 A2 (upl F 3 f') bc' (upl c 3 cn') (upl N 3 (N 3 + 1)))⟩
      · intro S2 f2' cn2' ha2 o2
        have eS1 : S2 = S' := (congrArg Prod.fst (Option.some.inj (ha.symm.trans ha2))).symm
        rw [eS1, oR] at o2
        exact Bool.noConfusion o2
      · intro ha2
        rw [ha] at ha2
        exact absurd ha2 (by simp)
    · intro S' f' cn' ha oR I1 A1 f1 g1 hk1
      refine Or.inr ⟨9, n, u + 6, I1, A1, J, 60, 53, X, rfl, hn.1, by decide, by decide, ?_⟩
      refine ⟨1, n + 1, u + 6, I1, A1, J, B, 60, 53, _, rfl, by decide, by omega, by omega, by omega, ?_⟩
      refine k_143 (mD_up of m1 m2 f1 g1) of hg (l := 0) (by decide) hWl.1 hWl.2.1 hx1 hx2 hW3.1 hW3.2.1 (WL_nx hW3) hNb ⟨by rw [g1 53 (by decide)]; exact h53.1, by rw [g1 53 (by decide)]; exact h53.2⟩ ?_ ?_ ?_
      · intro S2 f2' cn2' ha2 o2
        have eS1 : S2 = S' := (congrArg Prod.fst (Option.some.inj (ha.symm.trans ha2))).symm
        rw [eS1, oR] at o2
        exact Bool.noConfusion o2
      · intro S2 f2' cn2' ha2 o2 I2 A2 f2 g2 hm2 e60 ez1 ez2
        have eS1 : S2 = S' := (congrArg Prod.fst (Option.some.inj (ha.symm.trans ha2))).symm
        subst eS1
        obtain ⟨F', bc', c', hw⟩ := (ap_WFD (x := nmb (N 3) [(nI 0, nI 0, nI (4 * g + 0), o, nI 0)]) hW of (by decide) hl1 hl4 (nmb_gd hgd _) hnum (fun _ => nmb_key hkey _) hNb ha).2 oR
        exact ⟨S2, I2, A2, rfl, e60, INV_off hmk oR hk1 hm2 (Lo_fr f2 (by decide)) (Lo_fr g2 (by decide)) ⟨ez1, ez2⟩ (Or.inl ⟨rfl, rfl⟩) hw (fun x hx => by have := hNk x hx; omega)⟩
      · intro ha2
        rw [ha] at ha2
        exact absurd ha2 (by simp)
    · intro ha I1 A1 f1 g1
      refine Or.inr ⟨11, n, u + 6, I1, A1, J, 60, 53, X, rfl, hn.1, by decide, by decide, ?_⟩
      refine ⟨4, n + 1, u + 6, I1, A1, J, B, 60, 53, _, rfl, by decide, by omega, by omega, by omega, ?_⟩
      refine k_143 (mD_of of m1 m2 f1 g1 (by decide) (by decide)) of hg (l := 0) (by decide) hWl.1 hWl.2.1 hx1 hx2 hW3.1 hW3.2.1 (WL_nx hW3) hNb ⟨by rw [g1 53 (by decide)]; exact h53.1, by rw [g1 53 (by decide)]; exact h53.2⟩ ?_ ?_ ?_
      · intro S2 f2' cn2' ha2
        rw [ha] at ha2
        exact absurd ha2 (by simp)
      · intro S2 f2' cn2' ha2
        rw [ha] at ha2
        exact absurd ha2 (by simp)
      · intro _ I2 A2 f2 g2 e60 ez1 ez2
        have fI := Fr_cons (Fr_cons (Fr_refl [14, 26, 27, 28, 60, 65, 66, 67, 68, 71] I) f1 (by decide)) f2 (by decide)
        have gA := Fr_cons (Fr_cons (Fr_refl [3, 20, 21, 22, 23, 24, 52, 53, 54] A) g1 (by decide)) g2 (by decide)
        exact ⟨S, I2, A2, rfl, e60, INV_w2 h of ⟨rgK_fr k1 fI (by decide), by rw [gA 0 (by decide)]; exact k2⟩ ⟨rgM_fr m1 fI (by decide), by rw [gA 50 (by decide)]; exact m2⟩ fI gA (by decide) (by decide) ⟨ez1, ez2⟩ (fun l hl => (BC_fr (b := 3) hl fI gA (by decide) (by decide) : BC 3 I2 A2 l)) (ON_fr hON (Nat.le_succ k) fI gA (fun r h1 h2 => by simp; omega) ⟨fun r h1 h2 => by simp; omega, by decide, by decide, by decide⟩)⟩
set_option maxRecDepth 100000 in
set_option maxHeartbeats 4000000 in
theorem co_60_1 (h : INV k S I A 60 53) (of : dO S = false) (hk : k ≤ 1000) (hn : 77 ≤ n ∧ n < 10000) (hu : u + 6 < 1000000) {g : Nat} {o : Int32} (hg : g < 8) : mq 88 0 [some (.ref 1), some (.int (nI g)), some (.int (nI 1)), some (.int o), none] [] (hS n u I A J B 60 53 L xs X) (wQ0 cd87 B L xs (twn 143 [some (.ref 67), some (.int (nI g)), some (.int (nI 1)), some (.int o), none] (k + 1) n u L xs)) := by
  obtain ⟨⟨k1, k2⟩, ⟨m1, m2⟩, hmk, _, _, _, h53, hon, _⟩ := id h
  have h61 : I 61 = nI 0 := by
    rw [m1.1, of]
    rfl
  have hkD : kD 60 S I A := kD_of of ⟨k1, k2⟩
  obtain ⟨F, bc, c, N, hW, hNk, hLK, hKN⟩ := hon of
  have hON : ON k S I A F bc c N := ⟨hW, hNk, hLK, hKN⟩
  have hWl := hW.1 1 (by decide)
  have hKl := hLK 1 (by decide)
  have hW3 := hW.1 3 (by decide)
  have hK := hLK 3 (by decide)
  have hNb : N 3 + 4 < 2 ^ 31 := by
    have := hNk 3 (by decide)
    omega
  by_cases hx : o < stO (dD S) (F 1) 1 (c 1) ∨ ¬ o ≤ nxO (dD S) (F 1) bc (c 1)
  · refine k_88o_1 hkD of hg hKl.2.2.1 hKl.2.2.2 hx hn hu (Or.inr ⟨12, n, u + 6, I, A, J, 60, 53, X, rfl, hn.1, by decide, by decide, ?_⟩)
    refine ⟨3, n + 1, u + 6, I, A, J, B, 60, 53, _, rfl, by decide, by omega, by omega, by omega, ?_⟩
    exact k_143o ⟨m1, m2, fun q => by rw [of] at q; exact Bool.noConfusion q⟩ of hg (by decide) hWl.1 hWl.2.1 hx (fun I2 A2 f2 g2 e60 => ⟨S, I2, A2, rfl, e60, INV_r h (Fr_cons (Fr_refl _ I) f2 (by decide)) (Fr_cons (Fr_refl _ A) g2 (by decide))⟩)
  · have hx1 : ¬ o < stO (dD S) (F 1) 1 (c 1) := fun q => hx (Or.inl q)
    have hx2 : o ≤ nxO (dD S) (F 1) bc (c 1) := Decidable.byContradiction (fun q => hx (Or.inr q))
    have hl1 : 1 ≤ (nmb (N 3) [(nI 0, nI 0, nI (4 * g + 1), o, nI 0)]).length := by
      rw [nmb_len]
      exact Nat.le_refl 1
    have hl4 : (nmb (N 3) [(nI 0, nI 0, nI (4 * g + 1), o, nI 0)]).length ≤ 4 := by
      rw [nmb_len]
      exact (by decide : 1 ≤ 4)
    have hnum : ∀ y, y < (nmb (N 3) [(nI 0, nI 0, nI (4 * g + 1), o, nI 0)]).length → (gR (nmb (N 3) [(nI 0, nI 0, nI (4 * g + 1), o, nI 0)]) y).1 = nI (N 3 + y) := fun y hy => by
      rw [gR_nmb _ (N 3) y (by rw [nmb_len] at hy; exact hy)]
    have hgd : ∀ r ∈ [(nI 0, nI 0, nI (4 * g + 1), o, nI 0)], gd r := fun r hr => by
      rw [List.mem_singleton.mp hr]
      exact Or.inl rfl
    have hkey : ∀ r ∈ [(nI 0, nI 0, nI (4 * g + 1), o, nI 0)], ∃ y, y < 32 ∧ r.2.2.1 = nI y := fun r hr => ⟨4 * g + 1, by omega, by rw [List.mem_singleton.mp hr]⟩
    refine k_88_53_1 hkD of hg hKl.2.2.1 hKl.2.2.2 hx1 hx2 (cn := c 3) (N := N 3) (f := F 3) (SG_le hW3.1) hK.1 (fun y hy => (hW3.1.1 y hy).1) hK.2.1 (hK.2.2.2.trans (WL_nx hW3)) hNb (SG_room hW3.1) hn hu ?_ ?_ ?_
    · intro S' f' cn' ha oR I1 A1 f1 g1 hk1 e51 e49 esl e1
      refine Or.inl ⟨n, u, I1, A1, J, 60, 53, X, rfl, ?_⟩
      refine ⟨0, n, u, I1, A1, J, B, 60, 53, X, rfl, by decide, by omega, by omega, by omega, ?_⟩
      refine k_143 (mD_of of m1 m2 f1 g1 (by decide) (by decide)) of hg (l := 1) (by decide) hWl.1 hWl.2.1 hx1 hx2 hW3.1 hW3.2.1 (WL_nx hW3) hNb ⟨by rw [g1 53 (by decide)]; exact h53.1, by rw [g1 53 (by decide)]; exact h53.2⟩ ?_ ?_ ?_
      · intro S2 f2' cn2' ha2 o2 I2 A2 f2 g2 hm2 e60 e55 e56 ez1 ez2
        have eS1 : S2 = S' := (congrArg Prod.fst (Option.some.inj (ha.symm.trans ha2))).symm
        subst eS1
        obtain ⟨bc', hw⟩ := (ap_WFD (x := nmb (N 3) [(nI 0, nI 0, nI (4 * g + 1), o, nI 0)]) hW of (by decide) hl1 hl4 (nmb_gd hgd _) hnum (fun _ => nmb_key hkey _) hNb ha).1 oR
        have hab := ap_b hW (by decide) hl4 hNb ha oR
        rw [nmb_len] at hw
        have fI := Fr_cons (Fr_cons (Fr_refl [2, 3, 14, 15, 49, 51, 26, 27, 28, 60, 62, 63, 65, 66, 67, 68, 71] I) f1 (by decide)) f2 (by decide)
        have gA := Fr_cons (Fr_cons (Fr_refl [0, 1, 3, 4, 42, 20, 21, 22, 23, 24, 50, 52, 53, 54, 55, 56] A) g1 (by decide)) g2 (by decide)
        have hwl := hw.1 3 (by decide)
        rw [upl_s, upl_s, upl_s] at hwl
        have hL : LK 3 (dD S2) f' bc' cn' I2 A2 := ⟨(f2 49 (by decide)).trans e49, fun j hj => by rw [g2 42 (by decide)]; exact esl j hj, (fI 50 (by decide)).trans (hK.2.2.1.trans hab.2.symm), (f2 51 (by decide)).trans (e51.trans (WL_nx hwl).symm)⟩
        have hwo : ∀ m, m < 4 → ¬ m = 3 → WL (dD S2) m (F m) bc' (c m) (N m) := fun m hm e => by
          have h1 := hw.1 m hm
          rw [upl_n e, upl_n e, upl_n e] at h1
          exact h1
        have hN4 : ∀ x, x < 4 → upl N 3 (N 3 + 1) x ≤ 4 * (k + 1) := fun x hx => by
          have h1 := hNk x hx
          have h2 := hNk 3 (by decide)
          by_cases e : x = 3
          · rw [e, upl_s]
            omega
          · rw [upl_n e]
            omega
        have hKN2 : KNW A2 := KNW_c (x := 4 * g + 1) (o := o) hKN gA (by decide) (by rw [e55, g1 55 (by decide)]) ((g2 1 (by decide)).trans e1) (by rw [e56, g1 56 (by decide)])
        exact ⟨S2, I2, A2, rfl, e60, INV_w2 h oR ⟨rgK_lo hk1.1 (Lo_fr f2 (by decide)), by rw [g2 0 (by decide)]; exact hk1.2.1⟩ ⟨hm2.1, hm2.2.1⟩ fI gA (by decide) (by decide) ⟨ez1, ez2⟩ (fun l hl => (BC_fr (b := 3) hl fI gA (by decide) (by decide) : BC 3 I2 A2 l)) (⟨hw, hN4, LK_upl hLK hW.1 hwo (fun m hm _ hc => hab.1 m hm hc) hL fI gA (by decide) (by decide), hKN2⟩ : ON (k + 1) S2 I2 A2 (upl F 3 f') bc' (upl c 3 cn') (upl N 3 (N 3 + 1)))⟩
      · intro S2 f2' cn2' ha2 o2
        have eS1 : S2 = S' := (congrArg Prod.fst (Option.some.inj (ha.symm.trans ha2))).symm
        rw [eS1, oR] at o2
        exact Bool.noConfusion o2
      · intro ha2
        rw [ha] at ha2
        exact absurd ha2 (by simp)
    · intro S' f' cn' ha oR I1 A1 f1 g1 hk1
      refine Or.inr ⟨9, n, u + 6, I1, A1, J, 60, 53, X, rfl, hn.1, by decide, by decide, ?_⟩
      refine ⟨1, n + 1, u + 6, I1, A1, J, B, 60, 53, _, rfl, by decide, by omega, by omega, by omega, ?_⟩
      refine k_143 (mD_up of m1 m2 f1 g1) of hg (l := 1) (by decide) hWl.1 hWl.2.1 hx1 hx2 hW3.1 hW3.2.1 (WL_nx hW3) hNb ⟨by rw [g1 53 (by decide)]; exact h53.1, by rw [g1 53 (by decide)]; exact h53.2⟩ ?_ ?_ ?_
      · intro S2 f2' cn2' ha2 o2
        have eS1 : S2 = S' := (congrArg Prod.fst (Option.some.inj (ha.symm.trans ha2))).symm
        rw [eS1, oR] at o2
        exact Bool.noConfusion o2
      · intro S2 f2' cn2' ha2 o2 I2 A2 f2 g2 hm2 e60 ez1 ez2
        have eS1 : S2 = S' := (congrArg Prod.fst (Option.some.inj (ha.symm.trans ha2))).symm
        subst eS1
        obtain ⟨F', bc', c', hw⟩ := (ap_WFD (x := nmb (N 3) [(nI 0, nI 0, nI (4 * g + 1), o, nI 0)]) hW of (by decide) hl1 hl4 (nmb_gd hgd _) hnum (fun _ => nmb_key hkey _) hNb ha).2 oR
        exact ⟨S2, I2, A2, rfl, e60, INV_off hmk oR hk1 hm2 (Lo_fr f2 (by decide)) (Lo_fr g2 (by decide)) ⟨ez1, ez2⟩ (Or.inl ⟨rfl, rfl⟩) hw (fun x hx => by have := hNk x hx; omega)⟩
      · intro ha2
        rw [ha] at ha2
        exact absurd ha2 (by simp)
    · intro ha I1 A1 f1 g1
      refine Or.inr ⟨11, n, u + 6, I1, A1, J, 60, 53, X, rfl, hn.1, by decide, by decide, ?_⟩
      refine ⟨4, n + 1, u + 6, I1, A1, J, B, 60, 53, _, rfl, by decide, by omega, by omega, by omega, ?_⟩
      refine k_143 (mD_of of m1 m2 f1 g1 (by decide) (by decide)) of hg (l := 1) (by decide) hWl.1 hWl.2.1 hx1 hx2 hW3.1 hW3.2.1 (WL_nx hW3) hNb ⟨by rw [g1 53 (by decide)]; exact h53.1, by rw [g1 53 (by decide)]; exact h53.2⟩ ?_ ?_ ?_
      · intro S2 f2' cn2' ha2
        rw [ha] at ha2
        exact absurd ha2 (by simp)
      · intro S2 f2' cn2' ha2
        rw [ha] at ha2
        exact absurd ha2 (by simp)
      · intro _ I2 A2 f2 g2 e60 ez1 ez2
        have fI := Fr_cons (Fr_cons (Fr_refl [14, 26, 27, 28, 60, 65, 66, 67, 68, 71] I) f1 (by decide)) f2 (by decide)
        have gA := Fr_cons (Fr_cons (Fr_refl [3, 20, 21, 22, 23, 24, 52, 53, 54] A) g1 (by decide)) g2 (by decide)
        exact ⟨S, I2, A2, rfl, e60, INV_w2 h of ⟨rgK_fr k1 fI (by decide), by rw [gA 0 (by decide)]; exact k2⟩ ⟨rgM_fr m1 fI (by decide), by rw [gA 50 (by decide)]; exact m2⟩ fI gA (by decide) (by decide) ⟨ez1, ez2⟩ (fun l hl => (BC_fr (b := 3) hl fI gA (by decide) (by decide) : BC 3 I2 A2 l)) (ON_fr hON (Nat.le_succ k) fI gA (fun r h1 h2 => by simp; omega) ⟨fun r h1 h2 => by simp; omega, by decide, by decide, by decide⟩)⟩
set_option maxRecDepth 100000 in
set_option maxHeartbeats 4000000 in
theorem co_60_2 (h : INV k S I A 60 53) (of : dO S = false) (hk : k ≤ 1000) (hn : 77 ≤ n ∧ n < 10000) (hu : u + 6 < 1000000) {g : Nat} {o : Int32} (hg : g < 8) : mq 88 0 [some (.ref 1), some (.int (nI g)), some (.int (nI 2)), some (.int o), none] [] (hS n u I A J B 60 53 L xs X) (wQ0 cd87 B L xs (twn 143 [some (.ref 67), some (.int (nI g)), some (.int (nI 2)), some (.int o), none] (k + 1) n u L xs)) := by
  obtain ⟨⟨k1, k2⟩, ⟨m1, m2⟩, hmk, _, _, _, h53, hon, _⟩ := id h
  have h61 : I 61 = nI 0 := by
    rw [m1.1, of]
    rfl
  have hkD : kD 60 S I A := kD_of of ⟨k1, k2⟩
  obtain ⟨F, bc, c, N, hW, hNk, hLK, hKN⟩ := hon of
  have hON : ON k S I A F bc c N := ⟨hW, hNk, hLK, hKN⟩
  have hWl := hW.1 2 (by decide)
  have hKl := hLK 2 (by decide)
  have hW3 := hW.1 3 (by decide)
  have hK := hLK 3 (by decide)
  have hNb : N 3 + 4 < 2 ^ 31 := by
    have := hNk 3 (by decide)
    omega
  by_cases hx : o < stO (dD S) (F 2) 2 (c 2) ∨ ¬ o ≤ nxO (dD S) (F 2) bc (c 2)
  · refine k_88o_2 hkD of hg hKl.2.2.1 hKl.2.2.2 hx hn hu (Or.inr ⟨12, n, u + 6, I, A, J, 60, 53, X, rfl, hn.1, by decide, by decide, ?_⟩)
    refine ⟨3, n + 1, u + 6, I, A, J, B, 60, 53, _, rfl, by decide, by omega, by omega, by omega, ?_⟩
    exact k_143o ⟨m1, m2, fun q => by rw [of] at q; exact Bool.noConfusion q⟩ of hg (by decide) hWl.1 hWl.2.1 hx (fun I2 A2 f2 g2 e60 => ⟨S, I2, A2, rfl, e60, INV_r h (Fr_cons (Fr_refl _ I) f2 (by decide)) (Fr_cons (Fr_refl _ A) g2 (by decide))⟩)
  · have hx1 : ¬ o < stO (dD S) (F 2) 2 (c 2) := fun q => hx (Or.inl q)
    have hx2 : o ≤ nxO (dD S) (F 2) bc (c 2) := Decidable.byContradiction (fun q => hx (Or.inr q))
    have hl1 : 1 ≤ (nmb (N 3) [(nI 0, nI 0, nI (4 * g + 2), o, nI 0)]).length := by
      rw [nmb_len]
      exact Nat.le_refl 1
    have hl4 : (nmb (N 3) [(nI 0, nI 0, nI (4 * g + 2), o, nI 0)]).length ≤ 4 := by
      rw [nmb_len]
      exact (by decide : 1 ≤ 4)
    have hnum : ∀ y, y < (nmb (N 3) [(nI 0, nI 0, nI (4 * g + 2), o, nI 0)]).length → (gR (nmb (N 3) [(nI 0, nI 0, nI (4 * g + 2), o, nI 0)]) y).1 = nI (N 3 + y) := fun y hy => by
      rw [gR_nmb _ (N 3) y (by rw [nmb_len] at hy; exact hy)]
    have hgd : ∀ r ∈ [(nI 0, nI 0, nI (4 * g + 2), o, nI 0)], gd r := fun r hr => by
      rw [List.mem_singleton.mp hr]
      exact Or.inl rfl
    have hkey : ∀ r ∈ [(nI 0, nI 0, nI (4 * g + 2), o, nI 0)], ∃ y, y < 32 ∧ r.2.2.1 = nI y := fun r hr => ⟨4 * g + 2, by omega, by rw [List.mem_singleton.mp hr]⟩
    refine k_88_53_2 hkD of hg hKl.2.2.1 hKl.2.2.2 hx1 hx2 (cn := c 3) (N := N 3) (f := F 3) (SG_le hW3.1) hK.1 (fun y hy => (hW3.1.1 y hy).1) hK.2.1 (hK.2.2.2.trans (WL_nx hW3)) hNb (SG_room hW3.1) hn hu ?_ ?_ ?_
    · intro S' f' cn' ha oR I1 A1 f1 g1 hk1 e51 e49 esl e1
      refine Or.inl ⟨n, u, I1, A1, J, 60, 53, X, rfl, ?_⟩
      refine ⟨0, n, u, I1, A1, J, B, 60, 53, X, rfl, by decide, by omega, by omega, by omega, ?_⟩
      refine k_143 (mD_of of m1 m2 f1 g1 (by decide) (by decide)) of hg (l := 2) (by decide) hWl.1 hWl.2.1 hx1 hx2 hW3.1 hW3.2.1 (WL_nx hW3) hNb ⟨by rw [g1 53 (by decide)]; exact h53.1, by rw [g1 53 (by decide)]; exact h53.2⟩ ?_ ?_ ?_
      · intro S2 f2' cn2' ha2 o2 I2 A2 f2 g2 hm2 e60 e55 e56 ez1 ez2
        have eS1 : S2 = S' := (congrArg Prod.fst (Option.some.inj (ha.symm.trans ha2))).symm
        subst eS1
        obtain ⟨bc', hw⟩ := (ap_WFD (x := nmb (N 3) [(nI 0, nI 0, nI (4 * g + 2), o, nI 0)]) hW of (by decide) hl1 hl4 (nmb_gd hgd _) hnum (fun _ => nmb_key hkey _) hNb ha).1 oR
        have hab := ap_b hW (by decide) hl4 hNb ha oR
        rw [nmb_len] at hw
        have fI := Fr_cons (Fr_cons (Fr_refl [2, 3, 14, 15, 49, 51, 26, 27, 28, 60, 62, 63, 65, 66, 67, 68, 71] I) f1 (by decide)) f2 (by decide)
        have gA := Fr_cons (Fr_cons (Fr_refl [0, 1, 3, 4, 42, 20, 21, 22, 23, 24, 50, 52, 53, 54, 55, 56] A) g1 (by decide)) g2 (by decide)
        have hwl := hw.1 3 (by decide)
        rw [upl_s, upl_s, upl_s] at hwl
        have hL : LK 3 (dD S2) f' bc' cn' I2 A2 := ⟨(f2 49 (by decide)).trans e49, fun j hj => by rw [g2 42 (by decide)]; exact esl j hj, (fI 50 (by decide)).trans (hK.2.2.1.trans hab.2.symm), (f2 51 (by decide)).trans (e51.trans (WL_nx hwl).symm)⟩
        have hwo : ∀ m, m < 4 → ¬ m = 3 → WL (dD S2) m (F m) bc' (c m) (N m) := fun m hm e => by
          have h1 := hw.1 m hm
          rw [upl_n e, upl_n e, upl_n e] at h1
          exact h1
        have hN4 : ∀ x, x < 4 → upl N 3 (N 3 + 1) x ≤ 4 * (k + 1) := fun x hx => by
          have h1 := hNk x hx
          have h2 := hNk 3 (by decide)
          by_cases e : x = 3
          · rw [e, upl_s]
            omega
          · rw [upl_n e]
            omega
        have hKN2 : KNW A2 := KNW_c (x := 4 * g + 2) (o := o) hKN gA (by decide) (by rw [e55, g1 55 (by decide)]) ((g2 1 (by decide)).trans e1) (by rw [e56, g1 56 (by decide)])
        exact ⟨S2, I2, A2, rfl, e60, INV_w2 h oR ⟨rgK_lo hk1.1 (Lo_fr f2 (by decide)), by rw [g2 0 (by decide)]; exact hk1.2.1⟩ ⟨hm2.1, hm2.2.1⟩ fI gA (by decide) (by decide) ⟨ez1, ez2⟩ (fun l hl => (BC_fr (b := 3) hl fI gA (by decide) (by decide) : BC 3 I2 A2 l)) (⟨hw, hN4, LK_upl hLK hW.1 hwo (fun m hm _ hc => hab.1 m hm hc) hL fI gA (by decide) (by decide), hKN2⟩ : ON (k + 1) S2 I2 A2 (upl F 3 f') bc' (upl c 3 cn') (upl N 3 (N 3 + 1)))⟩
      · intro S2 f2' cn2' ha2 o2
        have eS1 : S2 = S' := (congrArg Prod.fst (Option.some.inj (ha.symm.trans ha2))).symm
        rw [eS1, oR] at o2
        exact Bool.noConfusion o2
      · intro ha2
        rw [ha] at ha2
        exact absurd ha2 (by simp)
    · intro S' f' cn' ha oR I1 A1 f1 g1 hk1
      refine Or.inr ⟨9, n, u + 6, I1, A1, J, 60, 53, X, rfl, hn.1, by decide, by decide, ?_⟩
      refine ⟨1, n + 1, u + 6, I1, A1, J, B, 60, 53, _, rfl, by decide, by omega, by omega, by omega, ?_⟩
      refine k_143 (mD_up of m1 m2 f1 g1) of hg (l := 2) (by decide) hWl.1 hWl.2.1 hx1 hx2 hW3.1 hW3.2.1 (WL_nx hW3) hNb ⟨by rw [g1 53 (by decide)]; exact h53.1, by rw [g1 53 (by decide)]; exact h53.2⟩ ?_ ?_ ?_
      · intro S2 f2' cn2' ha2 o2
        have eS1 : S2 = S' := (congrArg Prod.fst (Option.some.inj (ha.symm.trans ha2))).symm
        rw [eS1, oR] at o2
        exact Bool.noConfusion o2
      · intro S2 f2' cn2' ha2 o2 I2 A2 f2 g2 hm2 e60 ez1 ez2
        have eS1 : S2 = S' := (congrArg Prod.fst (Option.some.inj (ha.symm.trans ha2))).symm
        subst eS1
        obtain ⟨F', bc', c', hw⟩ := (ap_WFD (x := nmb (N 3) [(nI 0, nI 0, nI (4 * g + 2), o, nI 0)]) hW of (by decide) hl1 hl4 (nmb_gd hgd _) hnum (fun _ => nmb_key hkey _) hNb ha).2 oR
        exact ⟨S2, I2, A2, rfl, e60, INV_off hmk oR hk1 hm2 (Lo_fr f2 (by decide)) (Lo_fr g2 (by decide)) ⟨ez1, ez2⟩ (Or.inl ⟨rfl, rfl⟩) hw (fun x hx => by have := hNk x hx; omega)⟩
      · intro ha2
        rw [ha] at ha2
        exact absurd ha2 (by simp)
    · intro ha I1 A1 f1 g1
      refine Or.inr ⟨11, n, u + 6, I1, A1, J, 60, 53, X, rfl, hn.1, by decide, by decide, ?_⟩
      refine ⟨4, n + 1, u + 6, I1, A1, J, B, 60, 53, _, rfl, by decide, by omega, by omega, by omega, ?_⟩
      refine k_143 (mD_of of m1 m2 f1 g1 (by decide) (by decide)) of hg (l := 2) (by decide) hWl.1 hWl.2.1 hx1 hx2 hW3.1 hW3.2.1 (WL_nx hW3) hNb ⟨by rw [g1 53 (by decide)]; exact h53.1, by rw [g1 53 (by decide)]; exact h53.2⟩ ?_ ?_ ?_
      · intro S2 f2' cn2' ha2
        rw [ha] at ha2
        exact absurd ha2 (by simp)
      · intro S2 f2' cn2' ha2
        rw [ha] at ha2
        exact absurd ha2 (by simp)
      · intro _ I2 A2 f2 g2 e60 ez1 ez2
        have fI := Fr_cons (Fr_cons (Fr_refl [14, 26, 27, 28, 60, 65, 66, 67, 68, 71] I) f1 (by decide)) f2 (by decide)
        have gA := Fr_cons (Fr_cons (Fr_refl [3, 20, 21, 22, 23, 24, 52, 53, 54] A) g1 (by decide)) g2 (by decide)
        exact ⟨S, I2, A2, rfl, e60, INV_w2 h of ⟨rgK_fr k1 fI (by decide), by rw [gA 0 (by decide)]; exact k2⟩ ⟨rgM_fr m1 fI (by decide), by rw [gA 50 (by decide)]; exact m2⟩ fI gA (by decide) (by decide) ⟨ez1, ez2⟩ (fun l hl => (BC_fr (b := 3) hl fI gA (by decide) (by decide) : BC 3 I2 A2 l)) (ON_fr hON (Nat.le_succ k) fI gA (fun r h1 h2 => by simp; omega) ⟨fun r h1 h2 => by simp; omega, by decide, by decide, by decide⟩)⟩
set_option maxRecDepth 100000 in
set_option maxHeartbeats 4000000 in
theorem op_commit (h : INV k S I A mk sn) (hk : k ≤ 1000) (hn : 77 ≤ n ∧ n < 10000) (hu : u + 6 < 1000000) (g w o : Int32) : mq 87 0 [some (.ref 1), some (.int g), some (.int w), some (.int o), none] [] (hS n u I A J B mk sn L xs X) (twn 143 [some (.ref 67), some (.int g), some (.int w), some (.int o), none] (k + 1) n u L xs) := by
  refine w_87 ?_
  obtain ⟨⟨k1, k2⟩, ⟨m1, m2⟩, hmk, _, _, _, h53, hon, hoff⟩ := id h
  by_cases ho : dO S = true
  · have h0 : I 0 = nI 0 := by
      rw [k1.1, ho]
      rfl
    have h61 : I 61 = nI 1 := by
      rw [m1.1, ho]
      rfl
    refine k_88x h0 hn hu (Or.inr ⟨9, n, u + 6, I, A, J, mk, sn, X, rfl, hn.1, by decide, by decide, ?_⟩)
    refine ⟨1, n + 1, u + 6, I, A, J, B, mk, sn, _, rfl, by decide, by omega, by omega, by omega, ?_⟩
    exact k_143x h61 ⟨S, va_up I 60 (nI 1), A, rfl, rfl, INV_60 h _⟩
  · have of := ne_true ho
    have h61 : I 61 = nI 0 := by
      rw [m1.1, of]
      rfl
    have hkD : kD mk S I A := kD_of of ⟨k1, k2⟩
    have bad : ((g < 0 ∨ nI 8 ≤ g) ∨ (w < 0 ∨ nI 3 ≤ w)) → mq 88 0 [some (.ref 1), some (.int g), some (.int w), some (.int o), none] [] (hS n u I A J B mk sn L xs X) (wQ0 cd87 B L xs (twn 143 [some (.ref 67), some (.int g), some (.int w), some (.int o), none] (k + 1) n u L xs)) := fun hx => by
      refine k_88b hkD of hx hn hu (Or.inr ⟨10, n, u + 6, I, A, J, mk, sn, X, rfl, hn.1, by decide, by decide, ?_⟩)
      refine ⟨2, n + 1, u + 6, I, A, J, B, mk, sn, _, rfl, by decide, by omega, by omega, by omega, ?_⟩
      exact k_143b h61 hx ⟨S, va_up I 60 (nI 2), A, rfl, rfl, INV_60 h _⟩
    rcases pk_ix g (n := 8) (by decide) with h1 | h1 | ⟨y, hy, ey⟩
    · exact bad (Or.inl (Or.inl h1))
    · exact bad (Or.inl (Or.inr h1))
    rcases pk_ix w (n := 3) (by decide) with h1 | h1 | ⟨l, hl, el⟩
    · exact bad (Or.inr (Or.inl h1))
    · exact bad (Or.inr (Or.inr h1))
    subst ey el
    rcases hmk with ⟨e1, e2⟩ | ⟨e1, e2⟩
    · subst e1 e2
      match l, hl with
      | 0, _ => exact co_53_0 h of hk hn hu hy
      | 1, _ => exact co_53_1 h of hk hn hu hy
      | 2, _ => exact co_53_2 h of hk hn hu hy
    · subst e1 e2
      match l, hl with
      | 0, _ => exact co_60_0 h of hk hn hu hy
      | 1, _ => exact co_60_1 h of hk hn hu hy
      | 2, _ => exact co_60_2 h of hk hn hu hy
end S99c
