/-! produce keeps what holds. -/
section S99a
variable {n u : Nat} {I : Nat → Int32} {A : Nat → Nat → Int32} {J : Int64} {B : Nat → Int64} {mk sn L : Nat} {xs : Nat → Int32} {X : Nat → mC} {D : Nat → Nat} {S : DS} {k : Nat}
set_option maxRecDepth 100000 in
set_option maxHeartbeats 4000000 in
theorem pr_53_0 (h : INV k S I A 53 60) (of : dO S = false) (hk : k ≤ 1000) (hn : 77 ≤ n ∧ n < 10000) (hu : u + 6 < 1000000) {pp q : Int32} {l : List R5} (hl1 : 1 ≤ l.length) (l4 : l.length ≤ 4) (lg : ∀ r ∈ l, gd r) (lB : BC 2 I A l) (l64 : I 64 = nI l.length) (lT : MT 51 A l) (hp : pp = -1 ∨ ∃ p, p < 8 ∧ pp = nI p ∧ ¬ q < 0) : mq 58 0 [some (.ref 1), some (.int (nI 0)), some (.int pp), some (.int q), none, none, none, none] [] (hS n u I A J B 53 60 L xs X) (wQ cd57 B L xs (twx 113 [some (.ref 67), some (.int (nI 0)), some (.int pp), some (.int q), none, none, none, none] (k + 1) n u L xs)) := by
  obtain ⟨⟨k1, k2⟩, ⟨m1, m2⟩, hmk, _, _, _, h53, hon, _⟩ := id h
  have h61 : I 61 = nI 0 := by
    rw [m1.1, of]
    rfl
  have hkD : kD 53 S I A := kD_of of ⟨k1, k2⟩
  obtain ⟨F, bc, c, N, hW, hNk, hLK, hKN⟩ := hon of
  have hWl := hW.1 0 (by decide)
  have hK := hLK 0 (by decide)
  have hNb : N 0 + 4 < 2 ^ 31 := by
    have := hNk 0 (by decide)
    omega
  have hx1 : 1 ≤ (nmb (N 0) l).length := by
    rw [nmb_len]
    exact hl1
  have hx4 : (nmb (N 0) l).length ≤ 4 := by
    rw [nmb_len]
    exact l4
  have hnum : ∀ y, y < (nmb (N 0) l).length → (gR (nmb (N 0) l) y).1 = nI (N 0 + y) := fun y hy => by
    rw [gR_nmb l (N 0) y (by rw [nmb_len] at hy; exact hy)]
  rcases hp with ep | ⟨p, hp8, ep, hq0⟩
  · subst ep
    refine k_58a_53_0 hkD of lB hl1 l4 (cn := c 0) (N := N 0) (f := F 0) (SG_le hWl.1) hK.1 (fun y hy => (hWl.1.1 y hy).1) hK.2.1 (hK.2.2.2.trans (WL_nx hWl)) hNb (SG_room hWl.1) hn hu ?_ ?_ ?_
    · intro S' f' cn' ha oR I1 A1 f1 g1 hk1 ecb e42 e40 esl
      refine Or.inl ⟨_, n, u, I1, A1, J, 60, 53, X, rfl, ?_⟩
      refine ⟨0, n, u, I1, A1, J, _, 60, 53, X, rfl, by decide, by omega, by omega, by omega, ?_⟩
      refine k_113a (l := 0) (nn := l.length) ((f1 61 (by decide)).trans h61) ((f1 64 (by decide)).trans l64) hl1 l4 (by decide) (mD_of of m1 m2 f1 g1 (by decide) (by decide)) of hWl.1 hWl.2.1 (WL_nx hWl) hNb rfl (fun x hx => by rw [g1 51 (by decide)]; exact lT x hx) ?_ ?_ ?_
      · intro S2 f2' cn2' ha2 o2 I2 A2 f2 g2 hm2 e60 e64 e55
        have eS := Option.some.inj (ha.symm.trans ha2)
        have eS1 : S2 = S' := (congrArg Prod.fst eS).symm
        subst eS1
        obtain ⟨bc', hw⟩ := (ap_WFD (x := nmb (N 0) l) hW of (by decide) hx1 hx4 (nmb_gd lg _) hnum (fun z => absurd z (by decide)) hNb ha).1 oR
        have hab := ap_b hW (by decide) hx4 hNb ha oR
        rw [nmb_len] at hw
        have fI := Fr_cons (Fr_cons (Fr_refl [2, 3, 14, 15, 40, 42, 26, 27, 31, 60, 62, 63, 64, 65, 66, 67, 68, 71] I) f1 (by decide)) f2 (by decide)
        have gA := Fr_cons (Fr_cons (Fr_refl [0, 3, 4, 30, 20, 50, 51, 52, 54, 55] A) g1 (by decide)) g2 (by decide)
        have hwl := hw.1 0 (by decide)
        rw [upl_s, upl_s, upl_s] at hwl
        have hL : LK 0 (dD S2) f' bc' cn' I2 A2 := ⟨(f2 40 (by decide)).trans e40, fun j hj => by rw [g2 30 (by decide)]; exact esl j hj, (fI 41 (by decide)).trans (hK.2.2.1.trans hab.2.symm), (f2 42 (by decide)).trans (e42.trans (WL_nx hwl).symm)⟩
        have hwo : ∀ m, m < 4 → ¬ m = 0 → WL (dD S2) m (F m) bc' (c m) (N m) := fun m hm e => by
          have h1 := hw.1 m hm
          rw [upl_n e, upl_n e, upl_n e] at h1
          exact h1
        have hN4 : ∀ x, x < 4 → upl N 0 (N 0 + l.length) x ≤ 4 * (k + 1) := fun x hx => by
          have h1 := hNk x hx
          have h2 := hNk 0 (by decide)
          by_cases e : x = 0
          · rw [e, upl_s]
            omega
          · rw [upl_n e]
            omega
        have gB : Fr [0, 3, 4, 30, 20, 50, 51, 52, 54] A A2 := fun r hr => by
          by_cases e : r = 55
          · rw [e, e55, g1 55 (by decide)]
          · refine gA r (fun z => ?_)
            simp only [List.mem_cons, List.not_mem_nil, or_false] at z hr
            omega
        have hKN2 : KNW A2 := KNW_fr hKN gB (by decide)
        exact ⟨_, S2, I2, A2, rfl, e60, fun _ => vp_0 _ _, INV_p h oR ⟨rgK_lo hk1.1 (Lo_fr f2 (by decide)), by rw [g2 0 (by decide)]; exact hk1.2.1⟩ ⟨hm2.1, hm2.2.1⟩ fI gA (by decide) (by decide) ((f2 31 (by decide)).trans ecb) e64 (⟨hw, hN4, LK_upl hLK hW.1 hwo (fun m hm _ hc => hab.1 m hm hc) hL fI gA (by decide) (by decide), hKN2⟩ : ON (k + 1) S2 I2 A2 (upl F 0 f') bc' (upl c 0 cn') (upl N 0 (N 0 + l.length)))⟩
      · intro S2 f2' cn2' ha2 o2
        have eS1 : S2 = S' := (congrArg Prod.fst (Option.some.inj (ha.symm.trans ha2))).symm
        rw [eS1, oR] at o2
        exact Bool.noConfusion o2
      · intro ha2
        rw [ha] at ha2
        exact absurd ha2 (by simp)
    · intro S' f' cn' ha oR I1 A1 f1 g1 hk1
      refine Or.inr ⟨9, n, u + 6, I1, A1, J, 60, 53, X, rfl, hn.1, by decide, by decide, ?_⟩
      refine ⟨1, n + 1, u + 6, I1, A1, J, B, 60, 53, _, rfl, by decide, by omega, by omega, by omega, ?_⟩
      refine k_113a (l := 0) (nn := l.length) ((f1 61 (by decide)).trans h61) ((f1 64 (by decide)).trans l64) hl1 l4 (by decide) (mD_up of m1 m2 f1 g1) of hWl.1 hWl.2.1 (WL_nx hWl) hNb rfl (fun x hx => by rw [g1 51 (by decide)]; exact lT x hx) ?_ ?_ ?_
      · intro S2 f2' cn2' ha2 o2
        have eS1 : S2 = S' := (congrArg Prod.fst (Option.some.inj (ha.symm.trans ha2))).symm
        rw [eS1, oR] at o2
        exact Bool.noConfusion o2
      · intro S2 f2' cn2' ha2 o2 I2 A2 f2 g2 hm2 e60
        have eS1 : S2 = S' := (congrArg Prod.fst (Option.some.inj (ha.symm.trans ha2))).symm
        subst eS1
        obtain ⟨F', bc', c', hw⟩ := (ap_WFD (x := nmb (N 0) l) hW of (by decide) hx1 hx4 (nmb_gd lg _) hnum (fun z => absurd z (by decide)) hNb ha).2 oR
        exact ⟨nI 0, S2, I2, A2, rfl, e60, fun q => absurd q (by decide), INV_off (mks_sym hmk) oR hk1 hm2 (Lo_fr f2 (by decide)) (Lo_fr g2 (by decide)) ⟨by rw [g2 53 (by decide), g1 53 (by decide)]; exact h53.1, by rw [g2 53 (by decide), g1 53 (by decide)]; exact h53.2⟩ (Or.inl ⟨rfl, rfl⟩) hw (fun x hx => by have := hNk x hx; omega)⟩
      · intro ha2
        rw [ha] at ha2
        exact absurd ha2 (by simp)
    · intro ha I1 A1 f1 g1 ecb
      refine Or.inr ⟨11, n, u + 6, I1, A1, J, 60, 53, X, rfl, hn.1, by decide, by decide, ?_⟩
      refine ⟨3, n + 1, u + 6, I1, A1, J, B, 60, 53, _, rfl, by decide, by omega, by omega, by omega, ?_⟩
      refine k_113a (l := 0) (nn := l.length) ((f1 61 (by decide)).trans h61) ((f1 64 (by decide)).trans l64) hl1 l4 (by decide) (mD_of of m1 m2 f1 g1 (by decide) (by decide)) of hWl.1 hWl.2.1 (WL_nx hWl) hNb rfl (fun x hx => by rw [g1 51 (by decide)]; exact lT x hx) ?_ ?_ ?_
      · intro S2 f2' cn2' ha2
        rw [ha] at ha2
        exact absurd ha2 (by simp)
      · intro S2 f2' cn2' ha2
        rw [ha] at ha2
        exact absurd ha2 (by simp)
      · intro _ I2 A2 f2 g2 e60 e64
        exact ⟨nI 0, S, I2, A2, rfl, e60, fun q => absurd q (by decide), INV_t h (Fr_cons (Fr_cons (Fr_refl _ I) f1 (by decide)) f2 (by decide)) (Fr_cons (Fr_cons (Fr_refl _ A) g1 (by decide)) g2 (by decide)) ((f2 31 (by decide)).trans ecb) e64⟩
  · subst ep
    obtain ⟨m, hm5, e1, e2, e3⟩ := INV_kn h (l := 0) (by decide) hp8
    by_cases hs : ¬ m = 0 ∧ A 31 p = q ∧ m = l.length
    · obtain ⟨hs1, hs2, hs3⟩ := hs
      obtain ⟨es1, es2, o, ho31, ho9⟩ := e3 hs1
      refine k_58s_53_0 hkD of lB hl1 l4 hp8 hq0 e1 hm5 hs1 hs2 hs3 (o := o) ho9 ho31 ?_
      refine Or.inl ⟨_, n, u, _, A, J, 60, 53, X, rfl, ?_⟩
      refine ⟨0, n, u, _, A, J, _, 60, 53, X, rfl, by decide, by omega, by omega, by omega, ?_⟩
      refine k_113s (I := va_up (va_up (va_up I 31 (nI 0)) 26 (nI p)) 27 q) (l := 0) (p := p) (m := m) (nn := l.length) h61 l64 hl1 l4 (by decide) hp8 hq0 e2 hm5 hs1 (es1.symm.trans hs2) hs3 ⟨_, S, _, A, rfl, rfl, fun _ => ?_, INV_t h ?_ (Fr_refl _ A) rfl rfl⟩
      · rw [vp_0]
        exact congrArg Int32.toInt64 es2
      · exact Fr_u (Fr_u (Fr_u (Fr_u (Fr_u (Fr_refl _ I) (by decide)) (by decide)) (by decide)) (by decide)) (by decide)
    · have hnsM : ¬ (¬ m = 0 ∧ A 55 (3 * (8 * 0 + p)) = q ∧ m = l.length) := fun z => hs ⟨z.1, (e3 z.1).1.trans z.2.1, z.2.2⟩
      by_cases hor : m = 0 ∨ A 31 p + nI m = q
      · have horM : m = 0 ∨ A 55 (3 * (8 * 0 + p)) + nI m = q := by
          by_cases z : m = 0
          · exact Or.inl z
          · rcases hor with w | w
            · exact Or.inl w
            · exact Or.inr ((congrArg (fun y => y + nI m) (e3 z).1.symm).trans w)
        refine k_58p_53_0 hkD of lB hl1 l4 hp8 hq0 e1 hm5 hs hor (cn := c 0) (N := N 0) (f := F 0) (SG_le hWl.1) hK.1 (fun y hy => (hWl.1.1 y hy).1) hK.2.1 (hK.2.2.2.trans (WL_nx hWl)) hNb (SG_room hWl.1) hn hu ?_ ?_ ?_
        · intro S' f' cn' ha oR I1 A1 f1 g1 hk1 ecb e42 e40 esl es ec eo
          refine Or.inl ⟨_, n, u, I1, A1, J, 60, 53, X, rfl, ?_⟩
          refine ⟨0, n, u, I1, A1, J, _, 60, 53, X, rfl, by decide, by omega, by omega, by omega, ?_⟩
          refine k_113p (l := 0) (p := p) (m := m) (nn := l.length) ((f1 61 (by decide)).trans h61) ((f1 64 (by decide)).trans l64) hl1 l4 (by decide) hp8 hq0 (by rw [g1 55 (by decide)]; exact e2) hm5 (by rw [g1 55 (by decide)]; exact hnsM) (by rw [g1 55 (by decide)]; exact horM) (mD_of of m1 m2 f1 g1 (by decide) (by decide)) of hWl.1 hWl.2.1 (WL_nx hWl) hNb rfl (fun x hx => by rw [g1 51 (by decide)]; exact lT x hx) ?_ ?_ ?_
          · intro S2 f2' cn2' ha2 o2 I2 A2 f2 g2 hm2 e60 e64 e55
            have eS := Option.some.inj (ha.symm.trans ha2)
            have eS1 : S2 = S' := (congrArg Prod.fst eS).symm
            subst eS1
            obtain ⟨bc', hw⟩ := (ap_WFD (x := nmb (N 0) l) hW of (by decide) hx1 hx4 (nmb_gd lg _) hnum (fun z => absurd z (by decide)) hNb ha).1 oR
            have hab := ap_b hW (by decide) hx4 hNb ha oR
            rw [nmb_len] at hw
            have fI := Fr_cons (Fr_cons (Fr_refl [2, 3, 14, 15, 40, 42, 26, 27, 31, 60, 62, 63, 64, 65, 66, 67, 68, 71] I) f1 (by decide)) f2 (by decide)
            have gA := Fr_cons (Fr_cons (Fr_refl [0, 3, 4, 30, 20, 31, 32, 33, 50, 51, 52, 54, 55] A) g1 (by decide)) g2 (by decide)
            have hwl := hw.1 0 (by decide)
            rw [upl_s, upl_s, upl_s] at hwl
            have hL : LK 0 (dD S2) f' bc' cn' I2 A2 := ⟨(f2 40 (by decide)).trans e40, fun j hj => by rw [g2 30 (by decide)]; exact esl j hj, (fI 41 (by decide)).trans (hK.2.2.1.trans hab.2.symm), (f2 42 (by decide)).trans (e42.trans (WL_nx hwl).symm)⟩
            have hwo : ∀ m, m < 4 → ¬ m = 0 → WL (dD S2) m (F m) bc' (c m) (N m) := fun m hm e => by
              have h1 := hw.1 m hm
              rw [upl_n e, upl_n e, upl_n e] at h1
              exact h1
            have hN4 : ∀ x, x < 4 → upl N 0 (N 0 + l.length) x ≤ 4 * (k + 1) := fun x hx => by
              have h1 := hNk x hx
              have h2 := hNk 0 (by decide)
              by_cases e : x = 0
              · rw [e, upl_s]
                omega
              · rw [upl_n e]
                omega
            have hKN2 : KNW A2 := KNW_s (l := 0) (o := N 0) hKN hp8 gA (by decide) ((g2 31 (by decide)).trans es) ((g2 32 (by decide)).trans ec) ((g2 33 (by decide)).trans eo) (by rw [e55, g1 55 (by decide)]) l4 (by omega)
            exact ⟨_, S2, I2, A2, rfl, e60, fun _ => vp_0 _ _, INV_p h oR ⟨rgK_lo hk1.1 (Lo_fr f2 (by decide)), by rw [g2 0 (by decide)]; exact hk1.2.1⟩ ⟨hm2.1, hm2.2.1⟩ fI gA (by decide) (by decide) ((f2 31 (by decide)).trans ecb) e64 (⟨hw, hN4, LK_upl hLK hW.1 hwo (fun m hm _ hc => hab.1 m hm hc) hL fI gA (by decide) (by decide), hKN2⟩ : ON (k + 1) S2 I2 A2 (upl F 0 f') bc' (upl c 0 cn') (upl N 0 (N 0 + l.length)))⟩
          · intro S2 f2' cn2' ha2 o2
            have eS1 : S2 = S' := (congrArg Prod.fst (Option.some.inj (ha.symm.trans ha2))).symm
            rw [eS1, oR] at o2
            exact Bool.noConfusion o2
          · intro ha2
            rw [ha] at ha2
            exact absurd ha2 (by simp)
        · intro S' f' cn' ha oR I1 A1 f1 g1 hk1
          refine Or.inr ⟨9, n, u + 6, I1, A1, J, 60, 53, X, rfl, hn.1, by decide, by decide, ?_⟩
          refine ⟨1, n + 1, u + 6, I1, A1, J, B, 60, 53, _, rfl, by decide, by omega, by omega, by omega, ?_⟩
          refine k_113p (l := 0) (p := p) (m := m) (nn := l.length) ((f1 61 (by decide)).trans h61) ((f1 64 (by decide)).trans l64) hl1 l4 (by decide) hp8 hq0 (by rw [g1 55 (by decide)]; exact e2) hm5 (by rw [g1 55 (by decide)]; exact hnsM) (by rw [g1 55 (by decide)]; exact horM) (mD_up of m1 m2 f1 g1) of hWl.1 hWl.2.1 (WL_nx hWl) hNb rfl (fun x hx => by rw [g1 51 (by decide)]; exact lT x hx) ?_ ?_ ?_
          · intro S2 f2' cn2' ha2 o2
            have eS1 : S2 = S' := (congrArg Prod.fst (Option.some.inj (ha.symm.trans ha2))).symm
            rw [eS1, oR] at o2
            exact Bool.noConfusion o2
          · intro S2 f2' cn2' ha2 o2 I2 A2 f2 g2 hm2 e60
            have eS1 : S2 = S' := (congrArg Prod.fst (Option.some.inj (ha.symm.trans ha2))).symm
            subst eS1
            obtain ⟨F', bc', c', hw⟩ := (ap_WFD (x := nmb (N 0) l) hW of (by decide) hx1 hx4 (nmb_gd lg _) hnum (fun z => absurd z (by decide)) hNb ha).2 oR
            exact ⟨nI 0, S2, I2, A2, rfl, e60, fun q => absurd q (by decide), INV_off (mks_sym hmk) oR hk1 hm2 (Lo_fr f2 (by decide)) (Lo_fr g2 (by decide)) ⟨by rw [g2 53 (by decide), g1 53 (by decide)]; exact h53.1, by rw [g2 53 (by decide), g1 53 (by decide)]; exact h53.2⟩ (Or.inl ⟨rfl, rfl⟩) hw (fun x hx => by have := hNk x hx; omega)⟩
          · intro ha2
            rw [ha] at ha2
            exact absurd ha2 (by simp)
        · intro ha I1 A1 f1 g1 ecb
          refine Or.inr ⟨11, n, u + 6, I1, A1, J, 60, 53, X, rfl, hn.1, by decide, by decide, ?_⟩
          refine ⟨3, n + 1, u + 6, I1, A1, J, B, 60, 53, _, rfl, by decide, by omega, by omega, by omega, ?_⟩
          refine k_113p (l := 0) (p := p) (m := m) (nn := l.length) ((f1 61 (by decide)).trans h61) ((f1 64 (by decide)).trans l64) hl1 l4 (by decide) hp8 hq0 (by rw [g1 55 (by decide)]; exact e2) hm5 (by rw [g1 55 (by decide)]; exact hnsM) (by rw [g1 55 (by decide)]; exact horM) (mD_of of m1 m2 f1 g1 (by decide) (by decide)) of hWl.1 hWl.2.1 (WL_nx hWl) hNb rfl (fun x hx => by rw [g1 51 (by decide)]; exact lT x hx) ?_ ?_ ?_
          · intro S2 f2' cn2' ha2
            rw [ha] at ha2
            exact absurd ha2 (by simp)
          · intro S2 f2' cn2' ha2
            rw [ha] at ha2
            exact absurd ha2 (by simp)
          · intro _ I2 A2 f2 g2 e60 e64
            exact ⟨nI 0, S, I2, A2, rfl, e60, fun q => absurd q (by decide), INV_t h (Fr_cons (Fr_cons (Fr_refl _ I) f1 (by decide)) f2 (by decide)) (Fr_cons (Fr_cons (Fr_refl _ A) g1 (by decide)) g2 (by decide)) ((f2 31 (by decide)).trans ecb) e64⟩
      · have hm0 : ¬ m = 0 := fun z => hor (Or.inl z)
        have hor1 : ¬ A 31 p + nI m = q := fun z => hor (Or.inr z)
        refine k_58o_53_0 hkD of lB hl1 l4 hp8 hq0 e1 hm5 hs hm0 hor1 hn hu ?_
        refine Or.inr ⟨11, n, u + 6, _, A, J, 60, 53, X, rfl, hn.1, by decide, by decide, ?_⟩
        refine ⟨3, n + 1, u + 6, _, A, J, B, 60, 53, _, rfl, by decide, by omega, by omega, by omega, ?_⟩
        refine k_113o (I := va_up (va_up (va_up I 31 (nI 0)) 26 (nI p)) 27 q) (l := 0) (p := p) (m := m) (nn := l.length) h61 l64 hl1 l4 (by decide) hp8 hq0 e2 hm5 hnsM hm0 ?_ ⟨_, S, _, A, rfl, rfl, fun q => absurd q (by decide), INV_t h ?_ (Fr_refl _ A) rfl rfl⟩
        · rw [← (e3 hm0).1]
          exact hor1
        · exact Fr_u (Fr_u (Fr_u (Fr_u (Fr_u (Fr_u (Fr_refl _ I) (by decide)) (by decide)) (by decide)) (by decide)) (by decide)) (by decide)
set_option maxRecDepth 100000 in
set_option maxHeartbeats 4000000 in
theorem pr_53_1 (h : INV k S I A 53 60) (of : dO S = false) (hk : k ≤ 1000) (hn : 77 ≤ n ∧ n < 10000) (hu : u + 6 < 1000000) {pp q : Int32} {l : List R5} (hl1 : 1 ≤ l.length) (l4 : l.length ≤ 4) (lg : ∀ r ∈ l, gd r) (lB : BC 2 I A l) (l64 : I 64 = nI l.length) (lT : MT 51 A l) (hp : pp = -1 ∨ ∃ p, p < 8 ∧ pp = nI p ∧ ¬ q < 0) : mq 58 0 [some (.ref 1), some (.int (nI 1)), some (.int pp), some (.int q), none, none, none, none] [] (hS n u I A J B 53 60 L xs X) (wQ cd57 B L xs (twx 113 [some (.ref 67), some (.int (nI 1)), some (.int pp), some (.int q), none, none, none, none] (k + 1) n u L xs)) := by
  obtain ⟨⟨k1, k2⟩, ⟨m1, m2⟩, hmk, _, _, _, h53, hon, _⟩ := id h
  have h61 : I 61 = nI 0 := by
    rw [m1.1, of]
    rfl
  have hkD : kD 53 S I A := kD_of of ⟨k1, k2⟩
  obtain ⟨F, bc, c, N, hW, hNk, hLK, hKN⟩ := hon of
  have hWl := hW.1 1 (by decide)
  have hK := hLK 1 (by decide)
  have hNb : N 1 + 4 < 2 ^ 31 := by
    have := hNk 1 (by decide)
    omega
  have hx1 : 1 ≤ (nmb (N 1) l).length := by
    rw [nmb_len]
    exact hl1
  have hx4 : (nmb (N 1) l).length ≤ 4 := by
    rw [nmb_len]
    exact l4
  have hnum : ∀ y, y < (nmb (N 1) l).length → (gR (nmb (N 1) l) y).1 = nI (N 1 + y) := fun y hy => by
    rw [gR_nmb l (N 1) y (by rw [nmb_len] at hy; exact hy)]
  rcases hp with ep | ⟨p, hp8, ep, hq0⟩
  · subst ep
    refine k_58a_53_1 hkD of lB hl1 l4 (cn := c 1) (N := N 1) (f := F 1) (SG_le hWl.1) hK.1 (fun y hy => (hWl.1.1 y hy).1) hK.2.1 (hK.2.2.2.trans (WL_nx hWl)) hNb (SG_room hWl.1) hn hu ?_ ?_ ?_
    · intro S' f' cn' ha oR I1 A1 f1 g1 hk1 ecb e42 e40 esl
      refine Or.inl ⟨_, n, u, I1, A1, J, 60, 53, X, rfl, ?_⟩
      refine ⟨0, n, u, I1, A1, J, _, 60, 53, X, rfl, by decide, by omega, by omega, by omega, ?_⟩
      refine k_113a (l := 1) (nn := l.length) ((f1 61 (by decide)).trans h61) ((f1 64 (by decide)).trans l64) hl1 l4 (by decide) (mD_of of m1 m2 f1 g1 (by decide) (by decide)) of hWl.1 hWl.2.1 (WL_nx hWl) hNb rfl (fun x hx => by rw [g1 51 (by decide)]; exact lT x hx) ?_ ?_ ?_
      · intro S2 f2' cn2' ha2 o2 I2 A2 f2 g2 hm2 e60 e64 e55
        have eS := Option.some.inj (ha.symm.trans ha2)
        have eS1 : S2 = S' := (congrArg Prod.fst eS).symm
        subst eS1
        obtain ⟨bc', hw⟩ := (ap_WFD (x := nmb (N 1) l) hW of (by decide) hx1 hx4 (nmb_gd lg _) hnum (fun z => absurd z (by decide)) hNb ha).1 oR
        have hab := ap_b hW (by decide) hx4 hNb ha oR
        rw [nmb_len] at hw
        have fI := Fr_cons (Fr_cons (Fr_refl [2, 3, 14, 15, 43, 45, 26, 27, 31, 60, 62, 63, 64, 65, 66, 67, 68, 71] I) f1 (by decide)) f2 (by decide)
        have gA := Fr_cons (Fr_cons (Fr_refl [0, 3, 4, 34, 20, 50, 51, 52, 54, 55] A) g1 (by decide)) g2 (by decide)
        have hwl := hw.1 1 (by decide)
        rw [upl_s, upl_s, upl_s] at hwl
        have hL : LK 1 (dD S2) f' bc' cn' I2 A2 := ⟨(f2 43 (by decide)).trans e40, fun j hj => by rw [g2 34 (by decide)]; exact esl j hj, (fI 44 (by decide)).trans (hK.2.2.1.trans hab.2.symm), (f2 45 (by decide)).trans (e42.trans (WL_nx hwl).symm)⟩
        have hwo : ∀ m, m < 4 → ¬ m = 1 → WL (dD S2) m (F m) bc' (c m) (N m) := fun m hm e => by
          have h1 := hw.1 m hm
          rw [upl_n e, upl_n e, upl_n e] at h1
          exact h1
        have hN4 : ∀ x, x < 4 → upl N 1 (N 1 + l.length) x ≤ 4 * (k + 1) := fun x hx => by
          have h1 := hNk x hx
          have h2 := hNk 1 (by decide)
          by_cases e : x = 1
          · rw [e, upl_s]
            omega
          · rw [upl_n e]
            omega
        have gB : Fr [0, 3, 4, 34, 20, 50, 51, 52, 54] A A2 := fun r hr => by
          by_cases e : r = 55
          · rw [e, e55, g1 55 (by decide)]
          · refine gA r (fun z => ?_)
            simp only [List.mem_cons, List.not_mem_nil, or_false] at z hr
            omega
        have hKN2 : KNW A2 := KNW_fr hKN gB (by decide)
        exact ⟨_, S2, I2, A2, rfl, e60, fun _ => vp_0 _ _, INV_p h oR ⟨rgK_lo hk1.1 (Lo_fr f2 (by decide)), by rw [g2 0 (by decide)]; exact hk1.2.1⟩ ⟨hm2.1, hm2.2.1⟩ fI gA (by decide) (by decide) ((f2 31 (by decide)).trans ecb) e64 (⟨hw, hN4, LK_upl hLK hW.1 hwo (fun m hm _ hc => hab.1 m hm hc) hL fI gA (by decide) (by decide), hKN2⟩ : ON (k + 1) S2 I2 A2 (upl F 1 f') bc' (upl c 1 cn') (upl N 1 (N 1 + l.length)))⟩
      · intro S2 f2' cn2' ha2 o2
        have eS1 : S2 = S' := (congrArg Prod.fst (Option.some.inj (ha.symm.trans ha2))).symm
        rw [eS1, oR] at o2
        exact Bool.noConfusion o2
      · intro ha2
        rw [ha] at ha2
        exact absurd ha2 (by simp)
    · intro S' f' cn' ha oR I1 A1 f1 g1 hk1
      refine Or.inr ⟨9, n, u + 6, I1, A1, J, 60, 53, X, rfl, hn.1, by decide, by decide, ?_⟩
      refine ⟨1, n + 1, u + 6, I1, A1, J, B, 60, 53, _, rfl, by decide, by omega, by omega, by omega, ?_⟩
      refine k_113a (l := 1) (nn := l.length) ((f1 61 (by decide)).trans h61) ((f1 64 (by decide)).trans l64) hl1 l4 (by decide) (mD_up of m1 m2 f1 g1) of hWl.1 hWl.2.1 (WL_nx hWl) hNb rfl (fun x hx => by rw [g1 51 (by decide)]; exact lT x hx) ?_ ?_ ?_
      · intro S2 f2' cn2' ha2 o2
        have eS1 : S2 = S' := (congrArg Prod.fst (Option.some.inj (ha.symm.trans ha2))).symm
        rw [eS1, oR] at o2
        exact Bool.noConfusion o2
      · intro S2 f2' cn2' ha2 o2 I2 A2 f2 g2 hm2 e60
        have eS1 : S2 = S' := (congrArg Prod.fst (Option.some.inj (ha.symm.trans ha2))).symm
        subst eS1
        obtain ⟨F', bc', c', hw⟩ := (ap_WFD (x := nmb (N 1) l) hW of (by decide) hx1 hx4 (nmb_gd lg _) hnum (fun z => absurd z (by decide)) hNb ha).2 oR
        exact ⟨nI 0, S2, I2, A2, rfl, e60, fun q => absurd q (by decide), INV_off (mks_sym hmk) oR hk1 hm2 (Lo_fr f2 (by decide)) (Lo_fr g2 (by decide)) ⟨by rw [g2 53 (by decide), g1 53 (by decide)]; exact h53.1, by rw [g2 53 (by decide), g1 53 (by decide)]; exact h53.2⟩ (Or.inl ⟨rfl, rfl⟩) hw (fun x hx => by have := hNk x hx; omega)⟩
      · intro ha2
        rw [ha] at ha2
        exact absurd ha2 (by simp)
    · intro ha I1 A1 f1 g1 ecb
      refine Or.inr ⟨11, n, u + 6, I1, A1, J, 60, 53, X, rfl, hn.1, by decide, by decide, ?_⟩
      refine ⟨3, n + 1, u + 6, I1, A1, J, B, 60, 53, _, rfl, by decide, by omega, by omega, by omega, ?_⟩
      refine k_113a (l := 1) (nn := l.length) ((f1 61 (by decide)).trans h61) ((f1 64 (by decide)).trans l64) hl1 l4 (by decide) (mD_of of m1 m2 f1 g1 (by decide) (by decide)) of hWl.1 hWl.2.1 (WL_nx hWl) hNb rfl (fun x hx => by rw [g1 51 (by decide)]; exact lT x hx) ?_ ?_ ?_
      · intro S2 f2' cn2' ha2
        rw [ha] at ha2
        exact absurd ha2 (by simp)
      · intro S2 f2' cn2' ha2
        rw [ha] at ha2
        exact absurd ha2 (by simp)
      · intro _ I2 A2 f2 g2 e60 e64
        exact ⟨nI 0, S, I2, A2, rfl, e60, fun q => absurd q (by decide), INV_t h (Fr_cons (Fr_cons (Fr_refl _ I) f1 (by decide)) f2 (by decide)) (Fr_cons (Fr_cons (Fr_refl _ A) g1 (by decide)) g2 (by decide)) ((f2 31 (by decide)).trans ecb) e64⟩
  · subst ep
    obtain ⟨m, hm5, e1, e2, e3⟩ := INV_kn h (l := 1) (by decide) hp8
    by_cases hs : ¬ m = 0 ∧ A 35 p = q ∧ m = l.length
    · obtain ⟨hs1, hs2, hs3⟩ := hs
      obtain ⟨es1, es2, o, ho31, ho9⟩ := e3 hs1
      refine k_58s_53_1 hkD of lB hl1 l4 hp8 hq0 e1 hm5 hs1 hs2 hs3 (o := o) ho9 ho31 ?_
      refine Or.inl ⟨_, n, u, _, A, J, 60, 53, X, rfl, ?_⟩
      refine ⟨0, n, u, _, A, J, _, 60, 53, X, rfl, by decide, by omega, by omega, by omega, ?_⟩
      refine k_113s (I := va_up (va_up (va_up I 31 (nI 0)) 26 (nI p)) 27 q) (l := 1) (p := p) (m := m) (nn := l.length) h61 l64 hl1 l4 (by decide) hp8 hq0 e2 hm5 hs1 (es1.symm.trans hs2) hs3 ⟨_, S, _, A, rfl, rfl, fun _ => ?_, INV_t h ?_ (Fr_refl _ A) rfl rfl⟩
      · rw [vp_0]
        exact congrArg Int32.toInt64 es2
      · exact Fr_u (Fr_u (Fr_u (Fr_u (Fr_u (Fr_refl _ I) (by decide)) (by decide)) (by decide)) (by decide)) (by decide)
    · have hnsM : ¬ (¬ m = 0 ∧ A 55 (3 * (8 * 1 + p)) = q ∧ m = l.length) := fun z => hs ⟨z.1, (e3 z.1).1.trans z.2.1, z.2.2⟩
      by_cases hor : m = 0 ∨ A 35 p + nI m = q
      · have horM : m = 0 ∨ A 55 (3 * (8 * 1 + p)) + nI m = q := by
          by_cases z : m = 0
          · exact Or.inl z
          · rcases hor with w | w
            · exact Or.inl w
            · exact Or.inr ((congrArg (fun y => y + nI m) (e3 z).1.symm).trans w)
        refine k_58p_53_1 hkD of lB hl1 l4 hp8 hq0 e1 hm5 hs hor (cn := c 1) (N := N 1) (f := F 1) (SG_le hWl.1) hK.1 (fun y hy => (hWl.1.1 y hy).1) hK.2.1 (hK.2.2.2.trans (WL_nx hWl)) hNb (SG_room hWl.1) hn hu ?_ ?_ ?_
        · intro S' f' cn' ha oR I1 A1 f1 g1 hk1 ecb e42 e40 esl es ec eo
          refine Or.inl ⟨_, n, u, I1, A1, J, 60, 53, X, rfl, ?_⟩
          refine ⟨0, n, u, I1, A1, J, _, 60, 53, X, rfl, by decide, by omega, by omega, by omega, ?_⟩
          refine k_113p (l := 1) (p := p) (m := m) (nn := l.length) ((f1 61 (by decide)).trans h61) ((f1 64 (by decide)).trans l64) hl1 l4 (by decide) hp8 hq0 (by rw [g1 55 (by decide)]; exact e2) hm5 (by rw [g1 55 (by decide)]; exact hnsM) (by rw [g1 55 (by decide)]; exact horM) (mD_of of m1 m2 f1 g1 (by decide) (by decide)) of hWl.1 hWl.2.1 (WL_nx hWl) hNb rfl (fun x hx => by rw [g1 51 (by decide)]; exact lT x hx) ?_ ?_ ?_
          · intro S2 f2' cn2' ha2 o2 I2 A2 f2 g2 hm2 e60 e64 e55
            have eS := Option.some.inj (ha.symm.trans ha2)
            have eS1 : S2 = S' := (congrArg Prod.fst eS).symm
            subst eS1
            obtain ⟨bc', hw⟩ := (ap_WFD (x := nmb (N 1) l) hW of (by decide) hx1 hx4 (nmb_gd lg _) hnum (fun z => absurd z (by decide)) hNb ha).1 oR
            have hab := ap_b hW (by decide) hx4 hNb ha oR
            rw [nmb_len] at hw
            have fI := Fr_cons (Fr_cons (Fr_refl [2, 3, 14, 15, 43, 45, 26, 27, 31, 60, 62, 63, 64, 65, 66, 67, 68, 71] I) f1 (by decide)) f2 (by decide)
            have gA := Fr_cons (Fr_cons (Fr_refl [0, 3, 4, 34, 20, 35, 36, 37, 50, 51, 52, 54, 55] A) g1 (by decide)) g2 (by decide)
            have hwl := hw.1 1 (by decide)
            rw [upl_s, upl_s, upl_s] at hwl
            have hL : LK 1 (dD S2) f' bc' cn' I2 A2 := ⟨(f2 43 (by decide)).trans e40, fun j hj => by rw [g2 34 (by decide)]; exact esl j hj, (fI 44 (by decide)).trans (hK.2.2.1.trans hab.2.symm), (f2 45 (by decide)).trans (e42.trans (WL_nx hwl).symm)⟩
            have hwo : ∀ m, m < 4 → ¬ m = 1 → WL (dD S2) m (F m) bc' (c m) (N m) := fun m hm e => by
              have h1 := hw.1 m hm
              rw [upl_n e, upl_n e, upl_n e] at h1
              exact h1
            have hN4 : ∀ x, x < 4 → upl N 1 (N 1 + l.length) x ≤ 4 * (k + 1) := fun x hx => by
              have h1 := hNk x hx
              have h2 := hNk 1 (by decide)
              by_cases e : x = 1
              · rw [e, upl_s]
                omega
              · rw [upl_n e]
                omega
            have hKN2 : KNW A2 := KNW_s (l := 1) (o := N 1) hKN hp8 gA (by decide) ((g2 35 (by decide)).trans es) ((g2 36 (by decide)).trans ec) ((g2 37 (by decide)).trans eo) (by rw [e55, g1 55 (by decide)]) l4 (by omega)
            exact ⟨_, S2, I2, A2, rfl, e60, fun _ => vp_0 _ _, INV_p h oR ⟨rgK_lo hk1.1 (Lo_fr f2 (by decide)), by rw [g2 0 (by decide)]; exact hk1.2.1⟩ ⟨hm2.1, hm2.2.1⟩ fI gA (by decide) (by decide) ((f2 31 (by decide)).trans ecb) e64 (⟨hw, hN4, LK_upl hLK hW.1 hwo (fun m hm _ hc => hab.1 m hm hc) hL fI gA (by decide) (by decide), hKN2⟩ : ON (k + 1) S2 I2 A2 (upl F 1 f') bc' (upl c 1 cn') (upl N 1 (N 1 + l.length)))⟩
          · intro S2 f2' cn2' ha2 o2
            have eS1 : S2 = S' := (congrArg Prod.fst (Option.some.inj (ha.symm.trans ha2))).symm
            rw [eS1, oR] at o2
            exact Bool.noConfusion o2
          · intro ha2
            rw [ha] at ha2
            exact absurd ha2 (by simp)
        · intro S' f' cn' ha oR I1 A1 f1 g1 hk1
          refine Or.inr ⟨9, n, u + 6, I1, A1, J, 60, 53, X, rfl, hn.1, by decide, by decide, ?_⟩
          refine ⟨1, n + 1, u + 6, I1, A1, J, B, 60, 53, _, rfl, by decide, by omega, by omega, by omega, ?_⟩
          refine k_113p (l := 1) (p := p) (m := m) (nn := l.length) ((f1 61 (by decide)).trans h61) ((f1 64 (by decide)).trans l64) hl1 l4 (by decide) hp8 hq0 (by rw [g1 55 (by decide)]; exact e2) hm5 (by rw [g1 55 (by decide)]; exact hnsM) (by rw [g1 55 (by decide)]; exact horM) (mD_up of m1 m2 f1 g1) of hWl.1 hWl.2.1 (WL_nx hWl) hNb rfl (fun x hx => by rw [g1 51 (by decide)]; exact lT x hx) ?_ ?_ ?_
          · intro S2 f2' cn2' ha2 o2
            have eS1 : S2 = S' := (congrArg Prod.fst (Option.some.inj (ha.symm.trans ha2))).symm
            rw [eS1, oR] at o2
            exact Bool.noConfusion o2
          · intro S2 f2' cn2' ha2 o2 I2 A2 f2 g2 hm2 e60
            have eS1 : S2 = S' := (congrArg Prod.fst (Option.some.inj (ha.symm.trans ha2))).symm
            subst eS1
            obtain ⟨F', bc', c', hw⟩ := (ap_WFD (x := nmb (N 1) l) hW of (by decide) hx1 hx4 (nmb_gd lg _) hnum (fun z => absurd z (by decide)) hNb ha).2 oR
            exact ⟨nI 0, S2, I2, A2, rfl, e60, fun q => absurd q (by decide), INV_off (mks_sym hmk) oR hk1 hm2 (Lo_fr f2 (by decide)) (Lo_fr g2 (by decide)) ⟨by rw [g2 53 (by decide), g1 53 (by decide)]; exact h53.1, by rw [g2 53 (by decide), g1 53 (by decide)]; exact h53.2⟩ (Or.inl ⟨rfl, rfl⟩) hw (fun x hx => by have := hNk x hx; omega)⟩
          · intro ha2
            rw [ha] at ha2
            exact absurd ha2 (by simp)
        · intro ha I1 A1 f1 g1 ecb
          refine Or.inr ⟨11, n, u + 6, I1, A1, J, 60, 53, X, rfl, hn.1, by decide, by decide, ?_⟩
          refine ⟨3, n + 1, u + 6, I1, A1, J, B, 60, 53, _, rfl, by decide, by omega, by omega, by omega, ?_⟩
          refine k_113p (l := 1) (p := p) (m := m) (nn := l.length) ((f1 61 (by decide)).trans h61) ((f1 64 (by decide)).trans l64) hl1 l4 (by decide) hp8 hq0 (by rw [g1 55 (by decide)]; exact e2) hm5 (by rw [g1 55 (by decide)]; exact hnsM) (by rw [g1 55 (by decide)]; exact horM) (mD_of of m1 m2 f1 g1 (by decide) (by decide)) of hWl.1 hWl.2.1 (WL_nx hWl) hNb rfl (fun x hx => by rw [g1 51 (by decide)]; exact lT x hx) ?_ ?_ ?_
          · intro S2 f2' cn2' ha2
            rw [ha] at ha2
            exact absurd ha2 (by simp)
          · intro S2 f2' cn2' ha2
            rw [ha] at ha2
            exact absurd ha2 (by simp)
          · intro _ I2 A2 f2 g2 e60 e64
            exact ⟨nI 0, S, I2, A2, rfl, e60, fun q => absurd q (by decide), INV_t h (Fr_cons (Fr_cons (Fr_refl _ I) f1 (by decide)) f2 (by decide)) (Fr_cons (Fr_cons (Fr_refl _ A) g1 (by decide)) g2 (by decide)) ((f2 31 (by decide)).trans ecb) e64⟩
      · have hm0 : ¬ m = 0 := fun z => hor (Or.inl z)
        have hor1 : ¬ A 35 p + nI m = q := fun z => hor (Or.inr z)
        refine k_58o_53_1 hkD of lB hl1 l4 hp8 hq0 e1 hm5 hs hm0 hor1 hn hu ?_
        refine Or.inr ⟨11, n, u + 6, _, A, J, 60, 53, X, rfl, hn.1, by decide, by decide, ?_⟩
        refine ⟨3, n + 1, u + 6, _, A, J, B, 60, 53, _, rfl, by decide, by omega, by omega, by omega, ?_⟩
        refine k_113o (I := va_up (va_up (va_up I 31 (nI 0)) 26 (nI p)) 27 q) (l := 1) (p := p) (m := m) (nn := l.length) h61 l64 hl1 l4 (by decide) hp8 hq0 e2 hm5 hnsM hm0 ?_ ⟨_, S, _, A, rfl, rfl, fun q => absurd q (by decide), INV_t h ?_ (Fr_refl _ A) rfl rfl⟩
        · rw [← (e3 hm0).1]
          exact hor1
        · exact Fr_u (Fr_u (Fr_u (Fr_u (Fr_u (Fr_u (Fr_refl _ I) (by decide)) (by decide)) (by decide)) (by decide)) (by decide)) (by decide)
set_option maxRecDepth 100000 in
set_option maxHeartbeats 4000000 in
theorem pr_53_2 (h : INV k S I A 53 60) (of : dO S = false) (hk : k ≤ 1000) (hn : 77 ≤ n ∧ n < 10000) (hu : u + 6 < 1000000) {pp q : Int32} {l : List R5} (hl1 : 1 ≤ l.length) (l4 : l.length ≤ 4) (lg : ∀ r ∈ l, gd r) (lB : BC 2 I A l) (l64 : I 64 = nI l.length) (lT : MT 51 A l) (hp : pp = -1 ∨ ∃ p, p < 8 ∧ pp = nI p ∧ ¬ q < 0) : mq 58 0 [some (.ref 1), some (.int (nI 2)), some (.int pp), some (.int q), none, none, none, none] [] (hS n u I A J B 53 60 L xs X) (wQ cd57 B L xs (twx 113 [some (.ref 67), some (.int (nI 2)), some (.int pp), some (.int q), none, none, none, none] (k + 1) n u L xs)) := by
  obtain ⟨⟨k1, k2⟩, ⟨m1, m2⟩, hmk, _, _, _, h53, hon, _⟩ := id h
  have h61 : I 61 = nI 0 := by
    rw [m1.1, of]
    rfl
  have hkD : kD 53 S I A := kD_of of ⟨k1, k2⟩
  obtain ⟨F, bc, c, N, hW, hNk, hLK, hKN⟩ := hon of
  have hWl := hW.1 2 (by decide)
  have hK := hLK 2 (by decide)
  have hNb : N 2 + 4 < 2 ^ 31 := by
    have := hNk 2 (by decide)
    omega
  have hx1 : 1 ≤ (nmb (N 2) l).length := by
    rw [nmb_len]
    exact hl1
  have hx4 : (nmb (N 2) l).length ≤ 4 := by
    rw [nmb_len]
    exact l4
  have hnum : ∀ y, y < (nmb (N 2) l).length → (gR (nmb (N 2) l) y).1 = nI (N 2 + y) := fun y hy => by
    rw [gR_nmb l (N 2) y (by rw [nmb_len] at hy; exact hy)]
  rcases hp with ep | ⟨p, hp8, ep, hq0⟩
  · subst ep
    refine k_58a_53_2 hkD of lB hl1 l4 (cn := c 2) (N := N 2) (f := F 2) (SG_le hWl.1) hK.1 (fun y hy => (hWl.1.1 y hy).1) hK.2.1 (hK.2.2.2.trans (WL_nx hWl)) hNb (SG_room hWl.1) hn hu ?_ ?_ ?_
    · intro S' f' cn' ha oR I1 A1 f1 g1 hk1 ecb e42 e40 esl
      refine Or.inl ⟨_, n, u, I1, A1, J, 60, 53, X, rfl, ?_⟩
      refine ⟨0, n, u, I1, A1, J, _, 60, 53, X, rfl, by decide, by omega, by omega, by omega, ?_⟩
      refine k_113a (l := 2) (nn := l.length) ((f1 61 (by decide)).trans h61) ((f1 64 (by decide)).trans l64) hl1 l4 (by decide) (mD_of of m1 m2 f1 g1 (by decide) (by decide)) of hWl.1 hWl.2.1 (WL_nx hWl) hNb rfl (fun x hx => by rw [g1 51 (by decide)]; exact lT x hx) ?_ ?_ ?_
      · intro S2 f2' cn2' ha2 o2 I2 A2 f2 g2 hm2 e60 e64 e55
        have eS := Option.some.inj (ha.symm.trans ha2)
        have eS1 : S2 = S' := (congrArg Prod.fst eS).symm
        subst eS1
        obtain ⟨bc', hw⟩ := (ap_WFD (x := nmb (N 2) l) hW of (by decide) hx1 hx4 (nmb_gd lg _) hnum (fun z => absurd z (by decide)) hNb ha).1 oR
        have hab := ap_b hW (by decide) hx4 hNb ha oR
        rw [nmb_len] at hw
        have fI := Fr_cons (Fr_cons (Fr_refl [2, 3, 14, 15, 46, 48, 26, 27, 31, 60, 62, 63, 64, 65, 66, 67, 68, 71] I) f1 (by decide)) f2 (by decide)
        have gA := Fr_cons (Fr_cons (Fr_refl [0, 3, 4, 38, 20, 50, 51, 52, 54, 55] A) g1 (by decide)) g2 (by decide)
        have hwl := hw.1 2 (by decide)
        rw [upl_s, upl_s, upl_s] at hwl
        have hL : LK 2 (dD S2) f' bc' cn' I2 A2 := ⟨(f2 46 (by decide)).trans e40, fun j hj => by rw [g2 38 (by decide)]; exact esl j hj, (fI 47 (by decide)).trans (hK.2.2.1.trans hab.2.symm), (f2 48 (by decide)).trans (e42.trans (WL_nx hwl).symm)⟩
        have hwo : ∀ m, m < 4 → ¬ m = 2 → WL (dD S2) m (F m) bc' (c m) (N m) := fun m hm e => by
          have h1 := hw.1 m hm
          rw [upl_n e, upl_n e, upl_n e] at h1
          exact h1
        have hN4 : ∀ x, x < 4 → upl N 2 (N 2 + l.length) x ≤ 4 * (k + 1) := fun x hx => by
          have h1 := hNk x hx
          have h2 := hNk 2 (by decide)
          by_cases e : x = 2
          · rw [e, upl_s]
            omega
          · rw [upl_n e]
            omega
        have gB : Fr [0, 3, 4, 38, 20, 50, 51, 52, 54] A A2 := fun r hr => by
          by_cases e : r = 55
          · rw [e, e55, g1 55 (by decide)]
          · refine gA r (fun z => ?_)
            simp only [List.mem_cons, List.not_mem_nil, or_false] at z hr
            omega
        have hKN2 : KNW A2 := KNW_fr hKN gB (by decide)
        exact ⟨_, S2, I2, A2, rfl, e60, fun _ => vp_0 _ _, INV_p h oR ⟨rgK_lo hk1.1 (Lo_fr f2 (by decide)), by rw [g2 0 (by decide)]; exact hk1.2.1⟩ ⟨hm2.1, hm2.2.1⟩ fI gA (by decide) (by decide) ((f2 31 (by decide)).trans ecb) e64 (⟨hw, hN4, LK_upl hLK hW.1 hwo (fun m hm _ hc => hab.1 m hm hc) hL fI gA (by decide) (by decide), hKN2⟩ : ON (k + 1) S2 I2 A2 (upl F 2 f') bc' (upl c 2 cn') (upl N 2 (N 2 + l.length)))⟩
      · intro S2 f2' cn2' ha2 o2
        have eS1 : S2 = S' := (congrArg Prod.fst (Option.some.inj (ha.symm.trans ha2))).symm
        rw [eS1, oR] at o2
        exact Bool.noConfusion o2
      · intro ha2
        rw [ha] at ha2
        exact absurd ha2 (by simp)
    · intro S' f' cn' ha oR I1 A1 f1 g1 hk1
      refine Or.inr ⟨9, n, u + 6, I1, A1, J, 60, 53, X, rfl, hn.1, by decide, by decide, ?_⟩
      refine ⟨1, n + 1, u + 6, I1, A1, J, B, 60, 53, _, rfl, by decide, by omega, by omega, by omega, ?_⟩
      refine k_113a (l := 2) (nn := l.length) ((f1 61 (by decide)).trans h61) ((f1 64 (by decide)).trans l64) hl1 l4 (by decide) (mD_up of m1 m2 f1 g1) of hWl.1 hWl.2.1 (WL_nx hWl) hNb rfl (fun x hx => by rw [g1 51 (by decide)]; exact lT x hx) ?_ ?_ ?_
      · intro S2 f2' cn2' ha2 o2
        have eS1 : S2 = S' := (congrArg Prod.fst (Option.some.inj (ha.symm.trans ha2))).symm
        rw [eS1, oR] at o2
        exact Bool.noConfusion o2
      · intro S2 f2' cn2' ha2 o2 I2 A2 f2 g2 hm2 e60
        have eS1 : S2 = S' := (congrArg Prod.fst (Option.some.inj (ha.symm.trans ha2))).symm
        subst eS1
        obtain ⟨F', bc', c', hw⟩ := (ap_WFD (x := nmb (N 2) l) hW of (by decide) hx1 hx4 (nmb_gd lg _) hnum (fun z => absurd z (by decide)) hNb ha).2 oR
        exact ⟨nI 0, S2, I2, A2, rfl, e60, fun q => absurd q (by decide), INV_off (mks_sym hmk) oR hk1 hm2 (Lo_fr f2 (by decide)) (Lo_fr g2 (by decide)) ⟨by rw [g2 53 (by decide), g1 53 (by decide)]; exact h53.1, by rw [g2 53 (by decide), g1 53 (by decide)]; exact h53.2⟩ (Or.inl ⟨rfl, rfl⟩) hw (fun x hx => by have := hNk x hx; omega)⟩
      · intro ha2
        rw [ha] at ha2
        exact absurd ha2 (by simp)
    · intro ha I1 A1 f1 g1 ecb
      refine Or.inr ⟨11, n, u + 6, I1, A1, J, 60, 53, X, rfl, hn.1, by decide, by decide, ?_⟩
      refine ⟨3, n + 1, u + 6, I1, A1, J, B, 60, 53, _, rfl, by decide, by omega, by omega, by omega, ?_⟩
      refine k_113a (l := 2) (nn := l.length) ((f1 61 (by decide)).trans h61) ((f1 64 (by decide)).trans l64) hl1 l4 (by decide) (mD_of of m1 m2 f1 g1 (by decide) (by decide)) of hWl.1 hWl.2.1 (WL_nx hWl) hNb rfl (fun x hx => by rw [g1 51 (by decide)]; exact lT x hx) ?_ ?_ ?_
      · intro S2 f2' cn2' ha2
        rw [ha] at ha2
        exact absurd ha2 (by simp)
      · intro S2 f2' cn2' ha2
        rw [ha] at ha2
        exact absurd ha2 (by simp)
      · intro _ I2 A2 f2 g2 e60 e64
        exact ⟨nI 0, S, I2, A2, rfl, e60, fun q => absurd q (by decide), INV_t h (Fr_cons (Fr_cons (Fr_refl _ I) f1 (by decide)) f2 (by decide)) (Fr_cons (Fr_cons (Fr_refl _ A) g1 (by decide)) g2 (by decide)) ((f2 31 (by decide)).trans ecb) e64⟩
  · subst ep
    obtain ⟨m, hm5, e1, e2, e3⟩ := INV_kn h (l := 2) (by decide) hp8
    by_cases hs : ¬ m = 0 ∧ A 39 p = q ∧ m = l.length
    · obtain ⟨hs1, hs2, hs3⟩ := hs
      obtain ⟨es1, es2, o, ho31, ho9⟩ := e3 hs1
      refine k_58s_53_2 hkD of lB hl1 l4 hp8 hq0 e1 hm5 hs1 hs2 hs3 (o := o) ho9 ho31 ?_
      refine Or.inl ⟨_, n, u, _, A, J, 60, 53, X, rfl, ?_⟩
      refine ⟨0, n, u, _, A, J, _, 60, 53, X, rfl, by decide, by omega, by omega, by omega, ?_⟩
      refine k_113s (I := va_up (va_up (va_up I 31 (nI 0)) 26 (nI p)) 27 q) (l := 2) (p := p) (m := m) (nn := l.length) h61 l64 hl1 l4 (by decide) hp8 hq0 e2 hm5 hs1 (es1.symm.trans hs2) hs3 ⟨_, S, _, A, rfl, rfl, fun _ => ?_, INV_t h ?_ (Fr_refl _ A) rfl rfl⟩
      · rw [vp_0]
        exact congrArg Int32.toInt64 es2
      · exact Fr_u (Fr_u (Fr_u (Fr_u (Fr_u (Fr_refl _ I) (by decide)) (by decide)) (by decide)) (by decide)) (by decide)
    · have hnsM : ¬ (¬ m = 0 ∧ A 55 (3 * (8 * 2 + p)) = q ∧ m = l.length) := fun z => hs ⟨z.1, (e3 z.1).1.trans z.2.1, z.2.2⟩
      by_cases hor : m = 0 ∨ A 39 p + nI m = q
      · have horM : m = 0 ∨ A 55 (3 * (8 * 2 + p)) + nI m = q := by
          by_cases z : m = 0
          · exact Or.inl z
          · rcases hor with w | w
            · exact Or.inl w
            · exact Or.inr ((congrArg (fun y => y + nI m) (e3 z).1.symm).trans w)
        refine k_58p_53_2 hkD of lB hl1 l4 hp8 hq0 e1 hm5 hs hor (cn := c 2) (N := N 2) (f := F 2) (SG_le hWl.1) hK.1 (fun y hy => (hWl.1.1 y hy).1) hK.2.1 (hK.2.2.2.trans (WL_nx hWl)) hNb (SG_room hWl.1) hn hu ?_ ?_ ?_
        · intro S' f' cn' ha oR I1 A1 f1 g1 hk1 ecb e42 e40 esl es ec eo
          refine Or.inl ⟨_, n, u, I1, A1, J, 60, 53, X, rfl, ?_⟩
          refine ⟨0, n, u, I1, A1, J, _, 60, 53, X, rfl, by decide, by omega, by omega, by omega, ?_⟩
          refine k_113p (l := 2) (p := p) (m := m) (nn := l.length) ((f1 61 (by decide)).trans h61) ((f1 64 (by decide)).trans l64) hl1 l4 (by decide) hp8 hq0 (by rw [g1 55 (by decide)]; exact e2) hm5 (by rw [g1 55 (by decide)]; exact hnsM) (by rw [g1 55 (by decide)]; exact horM) (mD_of of m1 m2 f1 g1 (by decide) (by decide)) of hWl.1 hWl.2.1 (WL_nx hWl) hNb rfl (fun x hx => by rw [g1 51 (by decide)]; exact lT x hx) ?_ ?_ ?_
          · intro S2 f2' cn2' ha2 o2 I2 A2 f2 g2 hm2 e60 e64 e55
            have eS := Option.some.inj (ha.symm.trans ha2)
            have eS1 : S2 = S' := (congrArg Prod.fst eS).symm
            subst eS1
            obtain ⟨bc', hw⟩ := (ap_WFD (x := nmb (N 2) l) hW of (by decide) hx1 hx4 (nmb_gd lg _) hnum (fun z => absurd z (by decide)) hNb ha).1 oR
            have hab := ap_b hW (by decide) hx4 hNb ha oR
            rw [nmb_len] at hw
            have fI := Fr_cons (Fr_cons (Fr_refl [2, 3, 14, 15, 46, 48, 26, 27, 31, 60, 62, 63, 64, 65, 66, 67, 68, 71] I) f1 (by decide)) f2 (by decide)
            have gA := Fr_cons (Fr_cons (Fr_refl [0, 3, 4, 38, 20, 39, 40, 41, 50, 51, 52, 54, 55] A) g1 (by decide)) g2 (by decide)
            have hwl := hw.1 2 (by decide)
            rw [upl_s, upl_s, upl_s] at hwl
            have hL : LK 2 (dD S2) f' bc' cn' I2 A2 := ⟨(f2 46 (by decide)).trans e40, fun j hj => by rw [g2 38 (by decide)]; exact esl j hj, (fI 47 (by decide)).trans (hK.2.2.1.trans hab.2.symm), (f2 48 (by decide)).trans (e42.trans (WL_nx hwl).symm)⟩
            have hwo : ∀ m, m < 4 → ¬ m = 2 → WL (dD S2) m (F m) bc' (c m) (N m) := fun m hm e => by
              have h1 := hw.1 m hm
              rw [upl_n e, upl_n e, upl_n e] at h1
              exact h1
            have hN4 : ∀ x, x < 4 → upl N 2 (N 2 + l.length) x ≤ 4 * (k + 1) := fun x hx => by
              have h1 := hNk x hx
              have h2 := hNk 2 (by decide)
              by_cases e : x = 2
              · rw [e, upl_s]
                omega
              · rw [upl_n e]
                omega
            have hKN2 : KNW A2 := KNW_s (l := 2) (o := N 2) hKN hp8 gA (by decide) ((g2 39 (by decide)).trans es) ((g2 40 (by decide)).trans ec) ((g2 41 (by decide)).trans eo) (by rw [e55, g1 55 (by decide)]) l4 (by omega)
            exact ⟨_, S2, I2, A2, rfl, e60, fun _ => vp_0 _ _, INV_p h oR ⟨rgK_lo hk1.1 (Lo_fr f2 (by decide)), by rw [g2 0 (by decide)]; exact hk1.2.1⟩ ⟨hm2.1, hm2.2.1⟩ fI gA (by decide) (by decide) ((f2 31 (by decide)).trans ecb) e64 (⟨hw, hN4, LK_upl hLK hW.1 hwo (fun m hm _ hc => hab.1 m hm hc) hL fI gA (by decide) (by decide), hKN2⟩ : ON (k + 1) S2 I2 A2 (upl F 2 f') bc' (upl c 2 cn') (upl N 2 (N 2 + l.length)))⟩
          · intro S2 f2' cn2' ha2 o2
            have eS1 : S2 = S' := (congrArg Prod.fst (Option.some.inj (ha.symm.trans ha2))).symm
            rw [eS1, oR] at o2
            exact Bool.noConfusion o2
          · intro ha2
            rw [ha] at ha2
            exact absurd ha2 (by simp)
        · intro S' f' cn' ha oR I1 A1 f1 g1 hk1
          refine Or.inr ⟨9, n, u + 6, I1, A1, J, 60, 53, X, rfl, hn.1, by decide, by decide, ?_⟩
          refine ⟨1, n + 1, u + 6, I1, A1, J, B, 60, 53, _, rfl, by decide, by omega, by omega, by omega, ?_⟩
          refine k_113p (l := 2) (p := p) (m := m) (nn := l.length) ((f1 61 (by decide)).trans h61) ((f1 64 (by decide)).trans l64) hl1 l4 (by decide) hp8 hq0 (by rw [g1 55 (by decide)]; exact e2) hm5 (by rw [g1 55 (by decide)]; exact hnsM) (by rw [g1 55 (by decide)]; exact horM) (mD_up of m1 m2 f1 g1) of hWl.1 hWl.2.1 (WL_nx hWl) hNb rfl (fun x hx => by rw [g1 51 (by decide)]; exact lT x hx) ?_ ?_ ?_
          · intro S2 f2' cn2' ha2 o2
            have eS1 : S2 = S' := (congrArg Prod.fst (Option.some.inj (ha.symm.trans ha2))).symm
            rw [eS1, oR] at o2
            exact Bool.noConfusion o2
          · intro S2 f2' cn2' ha2 o2 I2 A2 f2 g2 hm2 e60
            have eS1 : S2 = S' := (congrArg Prod.fst (Option.some.inj (ha.symm.trans ha2))).symm
            subst eS1
            obtain ⟨F', bc', c', hw⟩ := (ap_WFD (x := nmb (N 2) l) hW of (by decide) hx1 hx4 (nmb_gd lg _) hnum (fun z => absurd z (by decide)) hNb ha).2 oR
            exact ⟨nI 0, S2, I2, A2, rfl, e60, fun q => absurd q (by decide), INV_off (mks_sym hmk) oR hk1 hm2 (Lo_fr f2 (by decide)) (Lo_fr g2 (by decide)) ⟨by rw [g2 53 (by decide), g1 53 (by decide)]; exact h53.1, by rw [g2 53 (by decide), g1 53 (by decide)]; exact h53.2⟩ (Or.inl ⟨rfl, rfl⟩) hw (fun x hx => by have := hNk x hx; omega)⟩
          · intro ha2
            rw [ha] at ha2
            exact absurd ha2 (by simp)
        · intro ha I1 A1 f1 g1 ecb
          refine Or.inr ⟨11, n, u + 6, I1, A1, J, 60, 53, X, rfl, hn.1, by decide, by decide, ?_⟩
          refine ⟨3, n + 1, u + 6, I1, A1, J, B, 60, 53, _, rfl, by decide, by omega, by omega, by omega, ?_⟩
          refine k_113p (l := 2) (p := p) (m := m) (nn := l.length) ((f1 61 (by decide)).trans h61) ((f1 64 (by decide)).trans l64) hl1 l4 (by decide) hp8 hq0 (by rw [g1 55 (by decide)]; exact e2) hm5 (by rw [g1 55 (by decide)]; exact hnsM) (by rw [g1 55 (by decide)]; exact horM) (mD_of of m1 m2 f1 g1 (by decide) (by decide)) of hWl.1 hWl.2.1 (WL_nx hWl) hNb rfl (fun x hx => by rw [g1 51 (by decide)]; exact lT x hx) ?_ ?_ ?_
          · intro S2 f2' cn2' ha2
            rw [ha] at ha2
            exact absurd ha2 (by simp)
          · intro S2 f2' cn2' ha2
            rw [ha] at ha2
            exact absurd ha2 (by simp)
          · intro _ I2 A2 f2 g2 e60 e64
            exact ⟨nI 0, S, I2, A2, rfl, e60, fun q => absurd q (by decide), INV_t h (Fr_cons (Fr_cons (Fr_refl _ I) f1 (by decide)) f2 (by decide)) (Fr_cons (Fr_cons (Fr_refl _ A) g1 (by decide)) g2 (by decide)) ((f2 31 (by decide)).trans ecb) e64⟩
      · have hm0 : ¬ m = 0 := fun z => hor (Or.inl z)
        have hor1 : ¬ A 39 p + nI m = q := fun z => hor (Or.inr z)
        refine k_58o_53_2 hkD of lB hl1 l4 hp8 hq0 e1 hm5 hs hm0 hor1 hn hu ?_
        refine Or.inr ⟨11, n, u + 6, _, A, J, 60, 53, X, rfl, hn.1, by decide, by decide, ?_⟩
        refine ⟨3, n + 1, u + 6, _, A, J, B, 60, 53, _, rfl, by decide, by omega, by omega, by omega, ?_⟩
        refine k_113o (I := va_up (va_up (va_up I 31 (nI 0)) 26 (nI p)) 27 q) (l := 2) (p := p) (m := m) (nn := l.length) h61 l64 hl1 l4 (by decide) hp8 hq0 e2 hm5 hnsM hm0 ?_ ⟨_, S, _, A, rfl, rfl, fun q => absurd q (by decide), INV_t h ?_ (Fr_refl _ A) rfl rfl⟩
        · rw [← (e3 hm0).1]
          exact hor1
        · exact Fr_u (Fr_u (Fr_u (Fr_u (Fr_u (Fr_u (Fr_refl _ I) (by decide)) (by decide)) (by decide)) (by decide)) (by decide)) (by decide)
set_option maxRecDepth 100000 in
set_option maxHeartbeats 4000000 in
theorem pr_60_0 (h : INV k S I A 60 53) (of : dO S = false) (hk : k ≤ 1000) (hn : 77 ≤ n ∧ n < 10000) (hu : u + 6 < 1000000) {pp q : Int32} {l : List R5} (hl1 : 1 ≤ l.length) (l4 : l.length ≤ 4) (lg : ∀ r ∈ l, gd r) (lB : BC 3 I A l) (l64 : I 64 = nI l.length) (lT : MT 51 A l) (hp : pp = -1 ∨ ∃ p, p < 8 ∧ pp = nI p ∧ ¬ q < 0) : mq 58 0 [some (.ref 1), some (.int (nI 0)), some (.int pp), some (.int q), none, none, none, none] [] (hS n u I A J B 60 53 L xs X) (wQ cd57 B L xs (twx 113 [some (.ref 67), some (.int (nI 0)), some (.int pp), some (.int q), none, none, none, none] (k + 1) n u L xs)) := by
  obtain ⟨⟨k1, k2⟩, ⟨m1, m2⟩, hmk, _, _, _, h53, hon, _⟩ := id h
  have h61 : I 61 = nI 0 := by
    rw [m1.1, of]
    rfl
  have hkD : kD 60 S I A := kD_of of ⟨k1, k2⟩
  obtain ⟨F, bc, c, N, hW, hNk, hLK, hKN⟩ := hon of
  have hWl := hW.1 0 (by decide)
  have hK := hLK 0 (by decide)
  have hNb : N 0 + 4 < 2 ^ 31 := by
    have := hNk 0 (by decide)
    omega
  have hx1 : 1 ≤ (nmb (N 0) l).length := by
    rw [nmb_len]
    exact hl1
  have hx4 : (nmb (N 0) l).length ≤ 4 := by
    rw [nmb_len]
    exact l4
  have hnum : ∀ y, y < (nmb (N 0) l).length → (gR (nmb (N 0) l) y).1 = nI (N 0 + y) := fun y hy => by
    rw [gR_nmb l (N 0) y (by rw [nmb_len] at hy; exact hy)]
  rcases hp with ep | ⟨p, hp8, ep, hq0⟩
  · subst ep
    refine k_58a_60_0 hkD of lB hl1 l4 (cn := c 0) (N := N 0) (f := F 0) (SG_le hWl.1) hK.1 (fun y hy => (hWl.1.1 y hy).1) hK.2.1 (hK.2.2.2.trans (WL_nx hWl)) hNb (SG_room hWl.1) hn hu ?_ ?_ ?_
    · intro S' f' cn' ha oR I1 A1 f1 g1 hk1 ecb e42 e40 esl
      refine Or.inl ⟨_, n, u, I1, A1, J, 53, 60, X, rfl, ?_⟩
      refine ⟨0, n, u, I1, A1, J, _, 53, 60, X, rfl, by decide, by omega, by omega, by omega, ?_⟩
      refine k_113a (l := 0) (nn := l.length) ((f1 61 (by decide)).trans h61) ((f1 64 (by decide)).trans l64) hl1 l4 (by decide) (mD_of of m1 m2 f1 g1 (by decide) (by decide)) of hWl.1 hWl.2.1 (WL_nx hWl) hNb rfl (fun x hx => by rw [g1 51 (by decide)]; exact lT x hx) ?_ ?_ ?_
      · intro S2 f2' cn2' ha2 o2 I2 A2 f2 g2 hm2 e60 e64 e55
        have eS := Option.some.inj (ha.symm.trans ha2)
        have eS1 : S2 = S' := (congrArg Prod.fst eS).symm
        subst eS1
        obtain ⟨bc', hw⟩ := (ap_WFD (x := nmb (N 0) l) hW of (by decide) hx1 hx4 (nmb_gd lg _) hnum (fun z => absurd z (by decide)) hNb ha).1 oR
        have hab := ap_b hW (by decide) hx4 hNb ha oR
        rw [nmb_len] at hw
        have fI := Fr_cons (Fr_cons (Fr_refl [2, 3, 14, 15, 40, 42, 29, 30, 28, 60, 62, 63, 64, 65, 66, 67, 68, 71] I) f1 (by decide)) f2 (by decide)
        have gA := Fr_cons (Fr_cons (Fr_refl [0, 3, 4, 30, 25, 50, 51, 52, 54, 55] A) g1 (by decide)) g2 (by decide)
        have hwl := hw.1 0 (by decide)
        rw [upl_s, upl_s, upl_s] at hwl
        have hL : LK 0 (dD S2) f' bc' cn' I2 A2 := ⟨(f2 40 (by decide)).trans e40, fun j hj => by rw [g2 30 (by decide)]; exact esl j hj, (fI 41 (by decide)).trans (hK.2.2.1.trans hab.2.symm), (f2 42 (by decide)).trans (e42.trans (WL_nx hwl).symm)⟩
        have hwo : ∀ m, m < 4 → ¬ m = 0 → WL (dD S2) m (F m) bc' (c m) (N m) := fun m hm e => by
          have h1 := hw.1 m hm
          rw [upl_n e, upl_n e, upl_n e] at h1
          exact h1
        have hN4 : ∀ x, x < 4 → upl N 0 (N 0 + l.length) x ≤ 4 * (k + 1) := fun x hx => by
          have h1 := hNk x hx
          have h2 := hNk 0 (by decide)
          by_cases e : x = 0
          · rw [e, upl_s]
            omega
          · rw [upl_n e]
            omega
        have gB : Fr [0, 3, 4, 30, 25, 50, 51, 52, 54] A A2 := fun r hr => by
          by_cases e : r = 55
          · rw [e, e55, g1 55 (by decide)]
          · refine gA r (fun z => ?_)
            simp only [List.mem_cons, List.not_mem_nil, or_false] at z hr
            omega
        have hKN2 : KNW A2 := KNW_fr hKN gB (by decide)
        exact ⟨_, S2, I2, A2, rfl, e60, fun _ => vp_0 _ _, INV_p h oR ⟨rgK_lo hk1.1 (Lo_fr f2 (by decide)), by rw [g2 0 (by decide)]; exact hk1.2.1⟩ ⟨hm2.1, hm2.2.1⟩ fI gA (by decide) (by decide) ((f2 28 (by decide)).trans ecb) e64 (⟨hw, hN4, LK_upl hLK hW.1 hwo (fun m hm _ hc => hab.1 m hm hc) hL fI gA (by decide) (by decide), hKN2⟩ : ON (k + 1) S2 I2 A2 (upl F 0 f') bc' (upl c 0 cn') (upl N 0 (N 0 + l.length)))⟩
      · intro S2 f2' cn2' ha2 o2
        have eS1 : S2 = S' := (congrArg Prod.fst (Option.some.inj (ha.symm.trans ha2))).symm
        rw [eS1, oR] at o2
        exact Bool.noConfusion o2
      · intro ha2
        rw [ha] at ha2
        exact absurd ha2 (by simp)
    · intro S' f' cn' ha oR I1 A1 f1 g1 hk1
      refine Or.inr ⟨9, n, u + 6, I1, A1, J, 53, 60, X, rfl, hn.1, by decide, by decide, ?_⟩
      refine ⟨1, n + 1, u + 6, I1, A1, J, B, 53, 60, _, rfl, by decide, by omega, by omega, by omega, ?_⟩
      refine k_113a (l := 0) (nn := l.length) ((f1 61 (by decide)).trans h61) ((f1 64 (by decide)).trans l64) hl1 l4 (by decide) (mD_up of m1 m2 f1 g1) of hWl.1 hWl.2.1 (WL_nx hWl) hNb rfl (fun x hx => by rw [g1 51 (by decide)]; exact lT x hx) ?_ ?_ ?_
      · intro S2 f2' cn2' ha2 o2
        have eS1 : S2 = S' := (congrArg Prod.fst (Option.some.inj (ha.symm.trans ha2))).symm
        rw [eS1, oR] at o2
        exact Bool.noConfusion o2
      · intro S2 f2' cn2' ha2 o2 I2 A2 f2 g2 hm2 e60
        have eS1 : S2 = S' := (congrArg Prod.fst (Option.some.inj (ha.symm.trans ha2))).symm
        subst eS1
        obtain ⟨F', bc', c', hw⟩ := (ap_WFD (x := nmb (N 0) l) hW of (by decide) hx1 hx4 (nmb_gd lg _) hnum (fun z => absurd z (by decide)) hNb ha).2 oR
        exact ⟨nI 0, S2, I2, A2, rfl, e60, fun q => absurd q (by decide), INV_off (mks_sym hmk) oR hk1 hm2 (Lo_fr f2 (by decide)) (Lo_fr g2 (by decide)) ⟨by rw [g2 53 (by decide), g1 53 (by decide)]; exact h53.1, by rw [g2 53 (by decide), g1 53 (by decide)]; exact h53.2⟩ (Or.inl ⟨rfl, rfl⟩) hw (fun x hx => by have := hNk x hx; omega)⟩
      · intro ha2
        rw [ha] at ha2
        exact absurd ha2 (by simp)
    · intro ha I1 A1 f1 g1 ecb
      refine Or.inr ⟨11, n, u + 6, I1, A1, J, 53, 60, X, rfl, hn.1, by decide, by decide, ?_⟩
      refine ⟨3, n + 1, u + 6, I1, A1, J, B, 53, 60, _, rfl, by decide, by omega, by omega, by omega, ?_⟩
      refine k_113a (l := 0) (nn := l.length) ((f1 61 (by decide)).trans h61) ((f1 64 (by decide)).trans l64) hl1 l4 (by decide) (mD_of of m1 m2 f1 g1 (by decide) (by decide)) of hWl.1 hWl.2.1 (WL_nx hWl) hNb rfl (fun x hx => by rw [g1 51 (by decide)]; exact lT x hx) ?_ ?_ ?_
      · intro S2 f2' cn2' ha2
        rw [ha] at ha2
        exact absurd ha2 (by simp)
      · intro S2 f2' cn2' ha2
        rw [ha] at ha2
        exact absurd ha2 (by simp)
      · intro _ I2 A2 f2 g2 e60 e64
        exact ⟨nI 0, S, I2, A2, rfl, e60, fun q => absurd q (by decide), INV_t h (Fr_cons (Fr_cons (Fr_refl _ I) f1 (by decide)) f2 (by decide)) (Fr_cons (Fr_cons (Fr_refl _ A) g1 (by decide)) g2 (by decide)) ((f2 28 (by decide)).trans ecb) e64⟩
  · subst ep
    obtain ⟨m, hm5, e1, e2, e3⟩ := INV_kn h (l := 0) (by decide) hp8
    by_cases hs : ¬ m = 0 ∧ A 31 p = q ∧ m = l.length
    · obtain ⟨hs1, hs2, hs3⟩ := hs
      obtain ⟨es1, es2, o, ho31, ho9⟩ := e3 hs1
      refine k_58s_60_0 hkD of lB hl1 l4 hp8 hq0 e1 hm5 hs1 hs2 hs3 (o := o) ho9 ho31 ?_
      refine Or.inl ⟨_, n, u, _, A, J, 53, 60, X, rfl, ?_⟩
      refine ⟨0, n, u, _, A, J, _, 53, 60, X, rfl, by decide, by omega, by omega, by omega, ?_⟩
      refine k_113s (I := va_up (va_up (va_up I 28 (nI 0)) 29 (nI p)) 30 q) (l := 0) (p := p) (m := m) (nn := l.length) h61 l64 hl1 l4 (by decide) hp8 hq0 e2 hm5 hs1 (es1.symm.trans hs2) hs3 ⟨_, S, _, A, rfl, rfl, fun _ => ?_, INV_t h ?_ (Fr_refl _ A) rfl rfl⟩
      · rw [vp_0]
        exact congrArg Int32.toInt64 es2
      · exact Fr_u (Fr_u (Fr_u (Fr_u (Fr_u (Fr_refl _ I) (by decide)) (by decide)) (by decide)) (by decide)) (by decide)
    · have hnsM : ¬ (¬ m = 0 ∧ A 55 (3 * (8 * 0 + p)) = q ∧ m = l.length) := fun z => hs ⟨z.1, (e3 z.1).1.trans z.2.1, z.2.2⟩
      by_cases hor : m = 0 ∨ A 31 p + nI m = q
      · have horM : m = 0 ∨ A 55 (3 * (8 * 0 + p)) + nI m = q := by
          by_cases z : m = 0
          · exact Or.inl z
          · rcases hor with w | w
            · exact Or.inl w
            · exact Or.inr ((congrArg (fun y => y + nI m) (e3 z).1.symm).trans w)
        refine k_58p_60_0 hkD of lB hl1 l4 hp8 hq0 e1 hm5 hs hor (cn := c 0) (N := N 0) (f := F 0) (SG_le hWl.1) hK.1 (fun y hy => (hWl.1.1 y hy).1) hK.2.1 (hK.2.2.2.trans (WL_nx hWl)) hNb (SG_room hWl.1) hn hu ?_ ?_ ?_
        · intro S' f' cn' ha oR I1 A1 f1 g1 hk1 ecb e42 e40 esl es ec eo
          refine Or.inl ⟨_, n, u, I1, A1, J, 53, 60, X, rfl, ?_⟩
          refine ⟨0, n, u, I1, A1, J, _, 53, 60, X, rfl, by decide, by omega, by omega, by omega, ?_⟩
          refine k_113p (l := 0) (p := p) (m := m) (nn := l.length) ((f1 61 (by decide)).trans h61) ((f1 64 (by decide)).trans l64) hl1 l4 (by decide) hp8 hq0 (by rw [g1 55 (by decide)]; exact e2) hm5 (by rw [g1 55 (by decide)]; exact hnsM) (by rw [g1 55 (by decide)]; exact horM) (mD_of of m1 m2 f1 g1 (by decide) (by decide)) of hWl.1 hWl.2.1 (WL_nx hWl) hNb rfl (fun x hx => by rw [g1 51 (by decide)]; exact lT x hx) ?_ ?_ ?_
          · intro S2 f2' cn2' ha2 o2 I2 A2 f2 g2 hm2 e60 e64 e55
            have eS := Option.some.inj (ha.symm.trans ha2)
            have eS1 : S2 = S' := (congrArg Prod.fst eS).symm
            subst eS1
            obtain ⟨bc', hw⟩ := (ap_WFD (x := nmb (N 0) l) hW of (by decide) hx1 hx4 (nmb_gd lg _) hnum (fun z => absurd z (by decide)) hNb ha).1 oR
            have hab := ap_b hW (by decide) hx4 hNb ha oR
            rw [nmb_len] at hw
            have fI := Fr_cons (Fr_cons (Fr_refl [2, 3, 14, 15, 40, 42, 29, 30, 28, 60, 62, 63, 64, 65, 66, 67, 68, 71] I) f1 (by decide)) f2 (by decide)
            have gA := Fr_cons (Fr_cons (Fr_refl [0, 3, 4, 30, 25, 31, 32, 33, 50, 51, 52, 54, 55] A) g1 (by decide)) g2 (by decide)
            have hwl := hw.1 0 (by decide)
            rw [upl_s, upl_s, upl_s] at hwl
            have hL : LK 0 (dD S2) f' bc' cn' I2 A2 := ⟨(f2 40 (by decide)).trans e40, fun j hj => by rw [g2 30 (by decide)]; exact esl j hj, (fI 41 (by decide)).trans (hK.2.2.1.trans hab.2.symm), (f2 42 (by decide)).trans (e42.trans (WL_nx hwl).symm)⟩
            have hwo : ∀ m, m < 4 → ¬ m = 0 → WL (dD S2) m (F m) bc' (c m) (N m) := fun m hm e => by
              have h1 := hw.1 m hm
              rw [upl_n e, upl_n e, upl_n e] at h1
              exact h1
            have hN4 : ∀ x, x < 4 → upl N 0 (N 0 + l.length) x ≤ 4 * (k + 1) := fun x hx => by
              have h1 := hNk x hx
              have h2 := hNk 0 (by decide)
              by_cases e : x = 0
              · rw [e, upl_s]
                omega
              · rw [upl_n e]
                omega
            have hKN2 : KNW A2 := KNW_s (l := 0) (o := N 0) hKN hp8 gA (by decide) ((g2 31 (by decide)).trans es) ((g2 32 (by decide)).trans ec) ((g2 33 (by decide)).trans eo) (by rw [e55, g1 55 (by decide)]) l4 (by omega)
            exact ⟨_, S2, I2, A2, rfl, e60, fun _ => vp_0 _ _, INV_p h oR ⟨rgK_lo hk1.1 (Lo_fr f2 (by decide)), by rw [g2 0 (by decide)]; exact hk1.2.1⟩ ⟨hm2.1, hm2.2.1⟩ fI gA (by decide) (by decide) ((f2 28 (by decide)).trans ecb) e64 (⟨hw, hN4, LK_upl hLK hW.1 hwo (fun m hm _ hc => hab.1 m hm hc) hL fI gA (by decide) (by decide), hKN2⟩ : ON (k + 1) S2 I2 A2 (upl F 0 f') bc' (upl c 0 cn') (upl N 0 (N 0 + l.length)))⟩
          · intro S2 f2' cn2' ha2 o2
            have eS1 : S2 = S' := (congrArg Prod.fst (Option.some.inj (ha.symm.trans ha2))).symm
            rw [eS1, oR] at o2
            exact Bool.noConfusion o2
          · intro ha2
            rw [ha] at ha2
            exact absurd ha2 (by simp)
        · intro S' f' cn' ha oR I1 A1 f1 g1 hk1
          refine Or.inr ⟨9, n, u + 6, I1, A1, J, 53, 60, X, rfl, hn.1, by decide, by decide, ?_⟩
          refine ⟨1, n + 1, u + 6, I1, A1, J, B, 53, 60, _, rfl, by decide, by omega, by omega, by omega, ?_⟩
          refine k_113p (l := 0) (p := p) (m := m) (nn := l.length) ((f1 61 (by decide)).trans h61) ((f1 64 (by decide)).trans l64) hl1 l4 (by decide) hp8 hq0 (by rw [g1 55 (by decide)]; exact e2) hm5 (by rw [g1 55 (by decide)]; exact hnsM) (by rw [g1 55 (by decide)]; exact horM) (mD_up of m1 m2 f1 g1) of hWl.1 hWl.2.1 (WL_nx hWl) hNb rfl (fun x hx => by rw [g1 51 (by decide)]; exact lT x hx) ?_ ?_ ?_
          · intro S2 f2' cn2' ha2 o2
            have eS1 : S2 = S' := (congrArg Prod.fst (Option.some.inj (ha.symm.trans ha2))).symm
            rw [eS1, oR] at o2
            exact Bool.noConfusion o2
          · intro S2 f2' cn2' ha2 o2 I2 A2 f2 g2 hm2 e60
            have eS1 : S2 = S' := (congrArg Prod.fst (Option.some.inj (ha.symm.trans ha2))).symm
            subst eS1
            obtain ⟨F', bc', c', hw⟩ := (ap_WFD (x := nmb (N 0) l) hW of (by decide) hx1 hx4 (nmb_gd lg _) hnum (fun z => absurd z (by decide)) hNb ha).2 oR
            exact ⟨nI 0, S2, I2, A2, rfl, e60, fun q => absurd q (by decide), INV_off (mks_sym hmk) oR hk1 hm2 (Lo_fr f2 (by decide)) (Lo_fr g2 (by decide)) ⟨by rw [g2 53 (by decide), g1 53 (by decide)]; exact h53.1, by rw [g2 53 (by decide), g1 53 (by decide)]; exact h53.2⟩ (Or.inl ⟨rfl, rfl⟩) hw (fun x hx => by have := hNk x hx; omega)⟩
          · intro ha2
            rw [ha] at ha2
            exact absurd ha2 (by simp)
        · intro ha I1 A1 f1 g1 ecb
          refine Or.inr ⟨11, n, u + 6, I1, A1, J, 53, 60, X, rfl, hn.1, by decide, by decide, ?_⟩
          refine ⟨3, n + 1, u + 6, I1, A1, J, B, 53, 60, _, rfl, by decide, by omega, by omega, by omega, ?_⟩
          refine k_113p (l := 0) (p := p) (m := m) (nn := l.length) ((f1 61 (by decide)).trans h61) ((f1 64 (by decide)).trans l64) hl1 l4 (by decide) hp8 hq0 (by rw [g1 55 (by decide)]; exact e2) hm5 (by rw [g1 55 (by decide)]; exact hnsM) (by rw [g1 55 (by decide)]; exact horM) (mD_of of m1 m2 f1 g1 (by decide) (by decide)) of hWl.1 hWl.2.1 (WL_nx hWl) hNb rfl (fun x hx => by rw [g1 51 (by decide)]; exact lT x hx) ?_ ?_ ?_
          · intro S2 f2' cn2' ha2
            rw [ha] at ha2
            exact absurd ha2 (by simp)
          · intro S2 f2' cn2' ha2
            rw [ha] at ha2
            exact absurd ha2 (by simp)
          · intro _ I2 A2 f2 g2 e60 e64
            exact ⟨nI 0, S, I2, A2, rfl, e60, fun q => absurd q (by decide), INV_t h (Fr_cons (Fr_cons (Fr_refl _ I) f1 (by decide)) f2 (by decide)) (Fr_cons (Fr_cons (Fr_refl _ A) g1 (by decide)) g2 (by decide)) ((f2 28 (by decide)).trans ecb) e64⟩
      · have hm0 : ¬ m = 0 := fun z => hor (Or.inl z)
        have hor1 : ¬ A 31 p + nI m = q := fun z => hor (Or.inr z)
        refine k_58o_60_0 hkD of lB hl1 l4 hp8 hq0 e1 hm5 hs hm0 hor1 hn hu ?_
        refine Or.inr ⟨11, n, u + 6, _, A, J, 53, 60, X, rfl, hn.1, by decide, by decide, ?_⟩
        refine ⟨3, n + 1, u + 6, _, A, J, B, 53, 60, _, rfl, by decide, by omega, by omega, by omega, ?_⟩
        refine k_113o (I := va_up (va_up (va_up I 28 (nI 0)) 29 (nI p)) 30 q) (l := 0) (p := p) (m := m) (nn := l.length) h61 l64 hl1 l4 (by decide) hp8 hq0 e2 hm5 hnsM hm0 ?_ ⟨_, S, _, A, rfl, rfl, fun q => absurd q (by decide), INV_t h ?_ (Fr_refl _ A) rfl rfl⟩
        · rw [← (e3 hm0).1]
          exact hor1
        · exact Fr_u (Fr_u (Fr_u (Fr_u (Fr_u (Fr_u (Fr_refl _ I) (by decide)) (by decide)) (by decide)) (by decide)) (by decide)) (by decide)
set_option maxRecDepth 100000 in
set_option maxHeartbeats 4000000 in
theorem pr_60_1 (h : INV k S I A 60 53) (of : dO S = false) (hk : k ≤ 1000) (hn : 77 ≤ n ∧ n < 10000) (hu : u + 6 < 1000000) {pp q : Int32} {l : List R5} (hl1 : 1 ≤ l.length) (l4 : l.length ≤ 4) (lg : ∀ r ∈ l, gd r) (lB : BC 3 I A l) (l64 : I 64 = nI l.length) (lT : MT 51 A l) (hp : pp = -1 ∨ ∃ p, p < 8 ∧ pp = nI p ∧ ¬ q < 0) : mq 58 0 [some (.ref 1), some (.int (nI 1)), some (.int pp), some (.int q), none, none, none, none] [] (hS n u I A J B 60 53 L xs X) (wQ cd57 B L xs (twx 113 [some (.ref 67), some (.int (nI 1)), some (.int pp), some (.int q), none, none, none, none] (k + 1) n u L xs)) := by
  obtain ⟨⟨k1, k2⟩, ⟨m1, m2⟩, hmk, _, _, _, h53, hon, _⟩ := id h
  have h61 : I 61 = nI 0 := by
    rw [m1.1, of]
    rfl
  have hkD : kD 60 S I A := kD_of of ⟨k1, k2⟩
  obtain ⟨F, bc, c, N, hW, hNk, hLK, hKN⟩ := hon of
  have hWl := hW.1 1 (by decide)
  have hK := hLK 1 (by decide)
  have hNb : N 1 + 4 < 2 ^ 31 := by
    have := hNk 1 (by decide)
    omega
  have hx1 : 1 ≤ (nmb (N 1) l).length := by
    rw [nmb_len]
    exact hl1
  have hx4 : (nmb (N 1) l).length ≤ 4 := by
    rw [nmb_len]
    exact l4
  have hnum : ∀ y, y < (nmb (N 1) l).length → (gR (nmb (N 1) l) y).1 = nI (N 1 + y) := fun y hy => by
    rw [gR_nmb l (N 1) y (by rw [nmb_len] at hy; exact hy)]
  rcases hp with ep | ⟨p, hp8, ep, hq0⟩
  · subst ep
    refine k_58a_60_1 hkD of lB hl1 l4 (cn := c 1) (N := N 1) (f := F 1) (SG_le hWl.1) hK.1 (fun y hy => (hWl.1.1 y hy).1) hK.2.1 (hK.2.2.2.trans (WL_nx hWl)) hNb (SG_room hWl.1) hn hu ?_ ?_ ?_
    · intro S' f' cn' ha oR I1 A1 f1 g1 hk1 ecb e42 e40 esl
      refine Or.inl ⟨_, n, u, I1, A1, J, 53, 60, X, rfl, ?_⟩
      refine ⟨0, n, u, I1, A1, J, _, 53, 60, X, rfl, by decide, by omega, by omega, by omega, ?_⟩
      refine k_113a (l := 1) (nn := l.length) ((f1 61 (by decide)).trans h61) ((f1 64 (by decide)).trans l64) hl1 l4 (by decide) (mD_of of m1 m2 f1 g1 (by decide) (by decide)) of hWl.1 hWl.2.1 (WL_nx hWl) hNb rfl (fun x hx => by rw [g1 51 (by decide)]; exact lT x hx) ?_ ?_ ?_
      · intro S2 f2' cn2' ha2 o2 I2 A2 f2 g2 hm2 e60 e64 e55
        have eS := Option.some.inj (ha.symm.trans ha2)
        have eS1 : S2 = S' := (congrArg Prod.fst eS).symm
        subst eS1
        obtain ⟨bc', hw⟩ := (ap_WFD (x := nmb (N 1) l) hW of (by decide) hx1 hx4 (nmb_gd lg _) hnum (fun z => absurd z (by decide)) hNb ha).1 oR
        have hab := ap_b hW (by decide) hx4 hNb ha oR
        rw [nmb_len] at hw
        have fI := Fr_cons (Fr_cons (Fr_refl [2, 3, 14, 15, 43, 45, 29, 30, 28, 60, 62, 63, 64, 65, 66, 67, 68, 71] I) f1 (by decide)) f2 (by decide)
        have gA := Fr_cons (Fr_cons (Fr_refl [0, 3, 4, 34, 25, 50, 51, 52, 54, 55] A) g1 (by decide)) g2 (by decide)
        have hwl := hw.1 1 (by decide)
        rw [upl_s, upl_s, upl_s] at hwl
        have hL : LK 1 (dD S2) f' bc' cn' I2 A2 := ⟨(f2 43 (by decide)).trans e40, fun j hj => by rw [g2 34 (by decide)]; exact esl j hj, (fI 44 (by decide)).trans (hK.2.2.1.trans hab.2.symm), (f2 45 (by decide)).trans (e42.trans (WL_nx hwl).symm)⟩
        have hwo : ∀ m, m < 4 → ¬ m = 1 → WL (dD S2) m (F m) bc' (c m) (N m) := fun m hm e => by
          have h1 := hw.1 m hm
          rw [upl_n e, upl_n e, upl_n e] at h1
          exact h1
        have hN4 : ∀ x, x < 4 → upl N 1 (N 1 + l.length) x ≤ 4 * (k + 1) := fun x hx => by
          have h1 := hNk x hx
          have h2 := hNk 1 (by decide)
          by_cases e : x = 1
          · rw [e, upl_s]
            omega
          · rw [upl_n e]
            omega
        have gB : Fr [0, 3, 4, 34, 25, 50, 51, 52, 54] A A2 := fun r hr => by
          by_cases e : r = 55
          · rw [e, e55, g1 55 (by decide)]
          · refine gA r (fun z => ?_)
            simp only [List.mem_cons, List.not_mem_nil, or_false] at z hr
            omega
        have hKN2 : KNW A2 := KNW_fr hKN gB (by decide)
        exact ⟨_, S2, I2, A2, rfl, e60, fun _ => vp_0 _ _, INV_p h oR ⟨rgK_lo hk1.1 (Lo_fr f2 (by decide)), by rw [g2 0 (by decide)]; exact hk1.2.1⟩ ⟨hm2.1, hm2.2.1⟩ fI gA (by decide) (by decide) ((f2 28 (by decide)).trans ecb) e64 (⟨hw, hN4, LK_upl hLK hW.1 hwo (fun m hm _ hc => hab.1 m hm hc) hL fI gA (by decide) (by decide), hKN2⟩ : ON (k + 1) S2 I2 A2 (upl F 1 f') bc' (upl c 1 cn') (upl N 1 (N 1 + l.length)))⟩
      · intro S2 f2' cn2' ha2 o2
        have eS1 : S2 = S' := (congrArg Prod.fst (Option.some.inj (ha.symm.trans ha2))).symm
        rw [eS1, oR] at o2
        exact Bool.noConfusion o2
      · intro ha2
        rw [ha] at ha2
        exact absurd ha2 (by simp)
    · intro S' f' cn' ha oR I1 A1 f1 g1 hk1
      refine Or.inr ⟨9, n, u + 6, I1, A1, J, 53, 60, X, rfl, hn.1, by decide, by decide, ?_⟩
      refine ⟨1, n + 1, u + 6, I1, A1, J, B, 53, 60, _, rfl, by decide, by omega, by omega, by omega, ?_⟩
      refine k_113a (l := 1) (nn := l.length) ((f1 61 (by decide)).trans h61) ((f1 64 (by decide)).trans l64) hl1 l4 (by decide) (mD_up of m1 m2 f1 g1) of hWl.1 hWl.2.1 (WL_nx hWl) hNb rfl (fun x hx => by rw [g1 51 (by decide)]; exact lT x hx) ?_ ?_ ?_
      · intro S2 f2' cn2' ha2 o2
        have eS1 : S2 = S' := (congrArg Prod.fst (Option.some.inj (ha.symm.trans ha2))).symm
        rw [eS1, oR] at o2
        exact Bool.noConfusion o2
      · intro S2 f2' cn2' ha2 o2 I2 A2 f2 g2 hm2 e60
        have eS1 : S2 = S' := (congrArg Prod.fst (Option.some.inj (ha.symm.trans ha2))).symm
        subst eS1
        obtain ⟨F', bc', c', hw⟩ := (ap_WFD (x := nmb (N 1) l) hW of (by decide) hx1 hx4 (nmb_gd lg _) hnum (fun z => absurd z (by decide)) hNb ha).2 oR
        exact ⟨nI 0, S2, I2, A2, rfl, e60, fun q => absurd q (by decide), INV_off (mks_sym hmk) oR hk1 hm2 (Lo_fr f2 (by decide)) (Lo_fr g2 (by decide)) ⟨by rw [g2 53 (by decide), g1 53 (by decide)]; exact h53.1, by rw [g2 53 (by decide), g1 53 (by decide)]; exact h53.2⟩ (Or.inl ⟨rfl, rfl⟩) hw (fun x hx => by have := hNk x hx; omega)⟩
      · intro ha2
        rw [ha] at ha2
        exact absurd ha2 (by simp)
    · intro ha I1 A1 f1 g1 ecb
      refine Or.inr ⟨11, n, u + 6, I1, A1, J, 53, 60, X, rfl, hn.1, by decide, by decide, ?_⟩
      refine ⟨3, n + 1, u + 6, I1, A1, J, B, 53, 60, _, rfl, by decide, by omega, by omega, by omega, ?_⟩
      refine k_113a (l := 1) (nn := l.length) ((f1 61 (by decide)).trans h61) ((f1 64 (by decide)).trans l64) hl1 l4 (by decide) (mD_of of m1 m2 f1 g1 (by decide) (by decide)) of hWl.1 hWl.2.1 (WL_nx hWl) hNb rfl (fun x hx => by rw [g1 51 (by decide)]; exact lT x hx) ?_ ?_ ?_
      · intro S2 f2' cn2' ha2
        rw [ha] at ha2
        exact absurd ha2 (by simp)
      · intro S2 f2' cn2' ha2
        rw [ha] at ha2
        exact absurd ha2 (by simp)
      · intro _ I2 A2 f2 g2 e60 e64
        exact ⟨nI 0, S, I2, A2, rfl, e60, fun q => absurd q (by decide), INV_t h (Fr_cons (Fr_cons (Fr_refl _ I) f1 (by decide)) f2 (by decide)) (Fr_cons (Fr_cons (Fr_refl _ A) g1 (by decide)) g2 (by decide)) ((f2 28 (by decide)).trans ecb) e64⟩
  · subst ep
    obtain ⟨m, hm5, e1, e2, e3⟩ := INV_kn h (l := 1) (by decide) hp8
    by_cases hs : ¬ m = 0 ∧ A 35 p = q ∧ m = l.length
    · obtain ⟨hs1, hs2, hs3⟩ := hs
      obtain ⟨es1, es2, o, ho31, ho9⟩ := e3 hs1
      refine k_58s_60_1 hkD of lB hl1 l4 hp8 hq0 e1 hm5 hs1 hs2 hs3 (o := o) ho9 ho31 ?_
      refine Or.inl ⟨_, n, u, _, A, J, 53, 60, X, rfl, ?_⟩
      refine ⟨0, n, u, _, A, J, _, 53, 60, X, rfl, by decide, by omega, by omega, by omega, ?_⟩
      refine k_113s (I := va_up (va_up (va_up I 28 (nI 0)) 29 (nI p)) 30 q) (l := 1) (p := p) (m := m) (nn := l.length) h61 l64 hl1 l4 (by decide) hp8 hq0 e2 hm5 hs1 (es1.symm.trans hs2) hs3 ⟨_, S, _, A, rfl, rfl, fun _ => ?_, INV_t h ?_ (Fr_refl _ A) rfl rfl⟩
      · rw [vp_0]
        exact congrArg Int32.toInt64 es2
      · exact Fr_u (Fr_u (Fr_u (Fr_u (Fr_u (Fr_refl _ I) (by decide)) (by decide)) (by decide)) (by decide)) (by decide)
    · have hnsM : ¬ (¬ m = 0 ∧ A 55 (3 * (8 * 1 + p)) = q ∧ m = l.length) := fun z => hs ⟨z.1, (e3 z.1).1.trans z.2.1, z.2.2⟩
      by_cases hor : m = 0 ∨ A 35 p + nI m = q
      · have horM : m = 0 ∨ A 55 (3 * (8 * 1 + p)) + nI m = q := by
          by_cases z : m = 0
          · exact Or.inl z
          · rcases hor with w | w
            · exact Or.inl w
            · exact Or.inr ((congrArg (fun y => y + nI m) (e3 z).1.symm).trans w)
        refine k_58p_60_1 hkD of lB hl1 l4 hp8 hq0 e1 hm5 hs hor (cn := c 1) (N := N 1) (f := F 1) (SG_le hWl.1) hK.1 (fun y hy => (hWl.1.1 y hy).1) hK.2.1 (hK.2.2.2.trans (WL_nx hWl)) hNb (SG_room hWl.1) hn hu ?_ ?_ ?_
        · intro S' f' cn' ha oR I1 A1 f1 g1 hk1 ecb e42 e40 esl es ec eo
          refine Or.inl ⟨_, n, u, I1, A1, J, 53, 60, X, rfl, ?_⟩
          refine ⟨0, n, u, I1, A1, J, _, 53, 60, X, rfl, by decide, by omega, by omega, by omega, ?_⟩
          refine k_113p (l := 1) (p := p) (m := m) (nn := l.length) ((f1 61 (by decide)).trans h61) ((f1 64 (by decide)).trans l64) hl1 l4 (by decide) hp8 hq0 (by rw [g1 55 (by decide)]; exact e2) hm5 (by rw [g1 55 (by decide)]; exact hnsM) (by rw [g1 55 (by decide)]; exact horM) (mD_of of m1 m2 f1 g1 (by decide) (by decide)) of hWl.1 hWl.2.1 (WL_nx hWl) hNb rfl (fun x hx => by rw [g1 51 (by decide)]; exact lT x hx) ?_ ?_ ?_
          · intro S2 f2' cn2' ha2 o2 I2 A2 f2 g2 hm2 e60 e64 e55
            have eS := Option.some.inj (ha.symm.trans ha2)
            have eS1 : S2 = S' := (congrArg Prod.fst eS).symm
            subst eS1
            obtain ⟨bc', hw⟩ := (ap_WFD (x := nmb (N 1) l) hW of (by decide) hx1 hx4 (nmb_gd lg _) hnum (fun z => absurd z (by decide)) hNb ha).1 oR
            have hab := ap_b hW (by decide) hx4 hNb ha oR
            rw [nmb_len] at hw
            have fI := Fr_cons (Fr_cons (Fr_refl [2, 3, 14, 15, 43, 45, 29, 30, 28, 60, 62, 63, 64, 65, 66, 67, 68, 71] I) f1 (by decide)) f2 (by decide)
            have gA := Fr_cons (Fr_cons (Fr_refl [0, 3, 4, 34, 25, 35, 36, 37, 50, 51, 52, 54, 55] A) g1 (by decide)) g2 (by decide)
            have hwl := hw.1 1 (by decide)
            rw [upl_s, upl_s, upl_s] at hwl
            have hL : LK 1 (dD S2) f' bc' cn' I2 A2 := ⟨(f2 43 (by decide)).trans e40, fun j hj => by rw [g2 34 (by decide)]; exact esl j hj, (fI 44 (by decide)).trans (hK.2.2.1.trans hab.2.symm), (f2 45 (by decide)).trans (e42.trans (WL_nx hwl).symm)⟩
            have hwo : ∀ m, m < 4 → ¬ m = 1 → WL (dD S2) m (F m) bc' (c m) (N m) := fun m hm e => by
              have h1 := hw.1 m hm
              rw [upl_n e, upl_n e, upl_n e] at h1
              exact h1
            have hN4 : ∀ x, x < 4 → upl N 1 (N 1 + l.length) x ≤ 4 * (k + 1) := fun x hx => by
              have h1 := hNk x hx
              have h2 := hNk 1 (by decide)
              by_cases e : x = 1
              · rw [e, upl_s]
                omega
              · rw [upl_n e]
                omega
            have hKN2 : KNW A2 := KNW_s (l := 1) (o := N 1) hKN hp8 gA (by decide) ((g2 35 (by decide)).trans es) ((g2 36 (by decide)).trans ec) ((g2 37 (by decide)).trans eo) (by rw [e55, g1 55 (by decide)]) l4 (by omega)
            exact ⟨_, S2, I2, A2, rfl, e60, fun _ => vp_0 _ _, INV_p h oR ⟨rgK_lo hk1.1 (Lo_fr f2 (by decide)), by rw [g2 0 (by decide)]; exact hk1.2.1⟩ ⟨hm2.1, hm2.2.1⟩ fI gA (by decide) (by decide) ((f2 28 (by decide)).trans ecb) e64 (⟨hw, hN4, LK_upl hLK hW.1 hwo (fun m hm _ hc => hab.1 m hm hc) hL fI gA (by decide) (by decide), hKN2⟩ : ON (k + 1) S2 I2 A2 (upl F 1 f') bc' (upl c 1 cn') (upl N 1 (N 1 + l.length)))⟩
          · intro S2 f2' cn2' ha2 o2
            have eS1 : S2 = S' := (congrArg Prod.fst (Option.some.inj (ha.symm.trans ha2))).symm
            rw [eS1, oR] at o2
            exact Bool.noConfusion o2
          · intro ha2
            rw [ha] at ha2
            exact absurd ha2 (by simp)
        · intro S' f' cn' ha oR I1 A1 f1 g1 hk1
          refine Or.inr ⟨9, n, u + 6, I1, A1, J, 53, 60, X, rfl, hn.1, by decide, by decide, ?_⟩
          refine ⟨1, n + 1, u + 6, I1, A1, J, B, 53, 60, _, rfl, by decide, by omega, by omega, by omega, ?_⟩
          refine k_113p (l := 1) (p := p) (m := m) (nn := l.length) ((f1 61 (by decide)).trans h61) ((f1 64 (by decide)).trans l64) hl1 l4 (by decide) hp8 hq0 (by rw [g1 55 (by decide)]; exact e2) hm5 (by rw [g1 55 (by decide)]; exact hnsM) (by rw [g1 55 (by decide)]; exact horM) (mD_up of m1 m2 f1 g1) of hWl.1 hWl.2.1 (WL_nx hWl) hNb rfl (fun x hx => by rw [g1 51 (by decide)]; exact lT x hx) ?_ ?_ ?_
          · intro S2 f2' cn2' ha2 o2
            have eS1 : S2 = S' := (congrArg Prod.fst (Option.some.inj (ha.symm.trans ha2))).symm
            rw [eS1, oR] at o2
            exact Bool.noConfusion o2
          · intro S2 f2' cn2' ha2 o2 I2 A2 f2 g2 hm2 e60
            have eS1 : S2 = S' := (congrArg Prod.fst (Option.some.inj (ha.symm.trans ha2))).symm
            subst eS1
            obtain ⟨F', bc', c', hw⟩ := (ap_WFD (x := nmb (N 1) l) hW of (by decide) hx1 hx4 (nmb_gd lg _) hnum (fun z => absurd z (by decide)) hNb ha).2 oR
            exact ⟨nI 0, S2, I2, A2, rfl, e60, fun q => absurd q (by decide), INV_off (mks_sym hmk) oR hk1 hm2 (Lo_fr f2 (by decide)) (Lo_fr g2 (by decide)) ⟨by rw [g2 53 (by decide), g1 53 (by decide)]; exact h53.1, by rw [g2 53 (by decide), g1 53 (by decide)]; exact h53.2⟩ (Or.inl ⟨rfl, rfl⟩) hw (fun x hx => by have := hNk x hx; omega)⟩
          · intro ha2
            rw [ha] at ha2
            exact absurd ha2 (by simp)
        · intro ha I1 A1 f1 g1 ecb
          refine Or.inr ⟨11, n, u + 6, I1, A1, J, 53, 60, X, rfl, hn.1, by decide, by decide, ?_⟩
          refine ⟨3, n + 1, u + 6, I1, A1, J, B, 53, 60, _, rfl, by decide, by omega, by omega, by omega, ?_⟩
          refine k_113p (l := 1) (p := p) (m := m) (nn := l.length) ((f1 61 (by decide)).trans h61) ((f1 64 (by decide)).trans l64) hl1 l4 (by decide) hp8 hq0 (by rw [g1 55 (by decide)]; exact e2) hm5 (by rw [g1 55 (by decide)]; exact hnsM) (by rw [g1 55 (by decide)]; exact horM) (mD_of of m1 m2 f1 g1 (by decide) (by decide)) of hWl.1 hWl.2.1 (WL_nx hWl) hNb rfl (fun x hx => by rw [g1 51 (by decide)]; exact lT x hx) ?_ ?_ ?_
          · intro S2 f2' cn2' ha2
            rw [ha] at ha2
            exact absurd ha2 (by simp)
          · intro S2 f2' cn2' ha2
            rw [ha] at ha2
            exact absurd ha2 (by simp)
          · intro _ I2 A2 f2 g2 e60 e64
            exact ⟨nI 0, S, I2, A2, rfl, e60, fun q => absurd q (by decide), INV_t h (Fr_cons (Fr_cons (Fr_refl _ I) f1 (by decide)) f2 (by decide)) (Fr_cons (Fr_cons (Fr_refl _ A) g1 (by decide)) g2 (by decide)) ((f2 28 (by decide)).trans ecb) e64⟩
      · have hm0 : ¬ m = 0 := fun z => hor (Or.inl z)
        have hor1 : ¬ A 35 p + nI m = q := fun z => hor (Or.inr z)
        refine k_58o_60_1 hkD of lB hl1 l4 hp8 hq0 e1 hm5 hs hm0 hor1 hn hu ?_
        refine Or.inr ⟨11, n, u + 6, _, A, J, 53, 60, X, rfl, hn.1, by decide, by decide, ?_⟩
        refine ⟨3, n + 1, u + 6, _, A, J, B, 53, 60, _, rfl, by decide, by omega, by omega, by omega, ?_⟩
        refine k_113o (I := va_up (va_up (va_up I 28 (nI 0)) 29 (nI p)) 30 q) (l := 1) (p := p) (m := m) (nn := l.length) h61 l64 hl1 l4 (by decide) hp8 hq0 e2 hm5 hnsM hm0 ?_ ⟨_, S, _, A, rfl, rfl, fun q => absurd q (by decide), INV_t h ?_ (Fr_refl _ A) rfl rfl⟩
        · rw [← (e3 hm0).1]
          exact hor1
        · exact Fr_u (Fr_u (Fr_u (Fr_u (Fr_u (Fr_u (Fr_refl _ I) (by decide)) (by decide)) (by decide)) (by decide)) (by decide)) (by decide)
set_option maxRecDepth 100000 in
set_option maxHeartbeats 4000000 in
theorem pr_60_2 (h : INV k S I A 60 53) (of : dO S = false) (hk : k ≤ 1000) (hn : 77 ≤ n ∧ n < 10000) (hu : u + 6 < 1000000) {pp q : Int32} {l : List R5} (hl1 : 1 ≤ l.length) (l4 : l.length ≤ 4) (lg : ∀ r ∈ l, gd r) (lB : BC 3 I A l) (l64 : I 64 = nI l.length) (lT : MT 51 A l) (hp : pp = -1 ∨ ∃ p, p < 8 ∧ pp = nI p ∧ ¬ q < 0) : mq 58 0 [some (.ref 1), some (.int (nI 2)), some (.int pp), some (.int q), none, none, none, none] [] (hS n u I A J B 60 53 L xs X) (wQ cd57 B L xs (twx 113 [some (.ref 67), some (.int (nI 2)), some (.int pp), some (.int q), none, none, none, none] (k + 1) n u L xs)) := by
  obtain ⟨⟨k1, k2⟩, ⟨m1, m2⟩, hmk, _, _, _, h53, hon, _⟩ := id h
  have h61 : I 61 = nI 0 := by
    rw [m1.1, of]
    rfl
  have hkD : kD 60 S I A := kD_of of ⟨k1, k2⟩
  obtain ⟨F, bc, c, N, hW, hNk, hLK, hKN⟩ := hon of
  have hWl := hW.1 2 (by decide)
  have hK := hLK 2 (by decide)
  have hNb : N 2 + 4 < 2 ^ 31 := by
    have := hNk 2 (by decide)
    omega
  have hx1 : 1 ≤ (nmb (N 2) l).length := by
    rw [nmb_len]
    exact hl1
  have hx4 : (nmb (N 2) l).length ≤ 4 := by
    rw [nmb_len]
    exact l4
  have hnum : ∀ y, y < (nmb (N 2) l).length → (gR (nmb (N 2) l) y).1 = nI (N 2 + y) := fun y hy => by
    rw [gR_nmb l (N 2) y (by rw [nmb_len] at hy; exact hy)]
  rcases hp with ep | ⟨p, hp8, ep, hq0⟩
  · subst ep
    refine k_58a_60_2 hkD of lB hl1 l4 (cn := c 2) (N := N 2) (f := F 2) (SG_le hWl.1) hK.1 (fun y hy => (hWl.1.1 y hy).1) hK.2.1 (hK.2.2.2.trans (WL_nx hWl)) hNb (SG_room hWl.1) hn hu ?_ ?_ ?_
    · intro S' f' cn' ha oR I1 A1 f1 g1 hk1 ecb e42 e40 esl
      refine Or.inl ⟨_, n, u, I1, A1, J, 53, 60, X, rfl, ?_⟩
      refine ⟨0, n, u, I1, A1, J, _, 53, 60, X, rfl, by decide, by omega, by omega, by omega, ?_⟩
      refine k_113a (l := 2) (nn := l.length) ((f1 61 (by decide)).trans h61) ((f1 64 (by decide)).trans l64) hl1 l4 (by decide) (mD_of of m1 m2 f1 g1 (by decide) (by decide)) of hWl.1 hWl.2.1 (WL_nx hWl) hNb rfl (fun x hx => by rw [g1 51 (by decide)]; exact lT x hx) ?_ ?_ ?_
      · intro S2 f2' cn2' ha2 o2 I2 A2 f2 g2 hm2 e60 e64 e55
        have eS := Option.some.inj (ha.symm.trans ha2)
        have eS1 : S2 = S' := (congrArg Prod.fst eS).symm
        subst eS1
        obtain ⟨bc', hw⟩ := (ap_WFD (x := nmb (N 2) l) hW of (by decide) hx1 hx4 (nmb_gd lg _) hnum (fun z => absurd z (by decide)) hNb ha).1 oR
        have hab := ap_b hW (by decide) hx4 hNb ha oR
        rw [nmb_len] at hw
        have fI := Fr_cons (Fr_cons (Fr_refl [2, 3, 14, 15, 46, 48, 29, 30, 28, 60, 62, 63, 64, 65, 66, 67, 68, 71] I) f1 (by decide)) f2 (by decide)
        have gA := Fr_cons (Fr_cons (Fr_refl [0, 3, 4, 38, 25, 50, 51, 52, 54, 55] A) g1 (by decide)) g2 (by decide)
        have hwl := hw.1 2 (by decide)
        rw [upl_s, upl_s, upl_s] at hwl
        have hL : LK 2 (dD S2) f' bc' cn' I2 A2 := ⟨(f2 46 (by decide)).trans e40, fun j hj => by rw [g2 38 (by decide)]; exact esl j hj, (fI 47 (by decide)).trans (hK.2.2.1.trans hab.2.symm), (f2 48 (by decide)).trans (e42.trans (WL_nx hwl).symm)⟩
        have hwo : ∀ m, m < 4 → ¬ m = 2 → WL (dD S2) m (F m) bc' (c m) (N m) := fun m hm e => by
          have h1 := hw.1 m hm
          rw [upl_n e, upl_n e, upl_n e] at h1
          exact h1
        have hN4 : ∀ x, x < 4 → upl N 2 (N 2 + l.length) x ≤ 4 * (k + 1) := fun x hx => by
          have h1 := hNk x hx
          have h2 := hNk 2 (by decide)
          by_cases e : x = 2
          · rw [e, upl_s]
            omega
          · rw [upl_n e]
            omega
        have gB : Fr [0, 3, 4, 38, 25, 50, 51, 52, 54] A A2 := fun r hr => by
          by_cases e : r = 55
          · rw [e, e55, g1 55 (by decide)]
          · refine gA r (fun z => ?_)
            simp only [List.mem_cons, List.not_mem_nil, or_false] at z hr
            omega
        have hKN2 : KNW A2 := KNW_fr hKN gB (by decide)
        exact ⟨_, S2, I2, A2, rfl, e60, fun _ => vp_0 _ _, INV_p h oR ⟨rgK_lo hk1.1 (Lo_fr f2 (by decide)), by rw [g2 0 (by decide)]; exact hk1.2.1⟩ ⟨hm2.1, hm2.2.1⟩ fI gA (by decide) (by decide) ((f2 28 (by decide)).trans ecb) e64 (⟨hw, hN4, LK_upl hLK hW.1 hwo (fun m hm _ hc => hab.1 m hm hc) hL fI gA (by decide) (by decide), hKN2⟩ : ON (k + 1) S2 I2 A2 (upl F 2 f') bc' (upl c 2 cn') (upl N 2 (N 2 + l.length)))⟩
      · intro S2 f2' cn2' ha2 o2
        have eS1 : S2 = S' := (congrArg Prod.fst (Option.some.inj (ha.symm.trans ha2))).symm
        rw [eS1, oR] at o2
        exact Bool.noConfusion o2
      · intro ha2
        rw [ha] at ha2
        exact absurd ha2 (by simp)
    · intro S' f' cn' ha oR I1 A1 f1 g1 hk1
      refine Or.inr ⟨9, n, u + 6, I1, A1, J, 53, 60, X, rfl, hn.1, by decide, by decide, ?_⟩
      refine ⟨1, n + 1, u + 6, I1, A1, J, B, 53, 60, _, rfl, by decide, by omega, by omega, by omega, ?_⟩
      refine k_113a (l := 2) (nn := l.length) ((f1 61 (by decide)).trans h61) ((f1 64 (by decide)).trans l64) hl1 l4 (by decide) (mD_up of m1 m2 f1 g1) of hWl.1 hWl.2.1 (WL_nx hWl) hNb rfl (fun x hx => by rw [g1 51 (by decide)]; exact lT x hx) ?_ ?_ ?_
      · intro S2 f2' cn2' ha2 o2
        have eS1 : S2 = S' := (congrArg Prod.fst (Option.some.inj (ha.symm.trans ha2))).symm
        rw [eS1, oR] at o2
        exact Bool.noConfusion o2
      · intro S2 f2' cn2' ha2 o2 I2 A2 f2 g2 hm2 e60
        have eS1 : S2 = S' := (congrArg Prod.fst (Option.some.inj (ha.symm.trans ha2))).symm
        subst eS1
        obtain ⟨F', bc', c', hw⟩ := (ap_WFD (x := nmb (N 2) l) hW of (by decide) hx1 hx4 (nmb_gd lg _) hnum (fun z => absurd z (by decide)) hNb ha).2 oR
        exact ⟨nI 0, S2, I2, A2, rfl, e60, fun q => absurd q (by decide), INV_off (mks_sym hmk) oR hk1 hm2 (Lo_fr f2 (by decide)) (Lo_fr g2 (by decide)) ⟨by rw [g2 53 (by decide), g1 53 (by decide)]; exact h53.1, by rw [g2 53 (by decide), g1 53 (by decide)]; exact h53.2⟩ (Or.inl ⟨rfl, rfl⟩) hw (fun x hx => by have := hNk x hx; omega)⟩
      · intro ha2
        rw [ha] at ha2
        exact absurd ha2 (by simp)
    · intro ha I1 A1 f1 g1 ecb
      refine Or.inr ⟨11, n, u + 6, I1, A1, J, 53, 60, X, rfl, hn.1, by decide, by decide, ?_⟩
      refine ⟨3, n + 1, u + 6, I1, A1, J, B, 53, 60, _, rfl, by decide, by omega, by omega, by omega, ?_⟩
      refine k_113a (l := 2) (nn := l.length) ((f1 61 (by decide)).trans h61) ((f1 64 (by decide)).trans l64) hl1 l4 (by decide) (mD_of of m1 m2 f1 g1 (by decide) (by decide)) of hWl.1 hWl.2.1 (WL_nx hWl) hNb rfl (fun x hx => by rw [g1 51 (by decide)]; exact lT x hx) ?_ ?_ ?_
      · intro S2 f2' cn2' ha2
        rw [ha] at ha2
        exact absurd ha2 (by simp)
      · intro S2 f2' cn2' ha2
        rw [ha] at ha2
        exact absurd ha2 (by simp)
      · intro _ I2 A2 f2 g2 e60 e64
        exact ⟨nI 0, S, I2, A2, rfl, e60, fun q => absurd q (by decide), INV_t h (Fr_cons (Fr_cons (Fr_refl _ I) f1 (by decide)) f2 (by decide)) (Fr_cons (Fr_cons (Fr_refl _ A) g1 (by decide)) g2 (by decide)) ((f2 28 (by decide)).trans ecb) e64⟩
  · subst ep
    obtain ⟨m, hm5, e1, e2, e3⟩ := INV_kn h (l := 2) (by decide) hp8
    by_cases hs : ¬ m = 0 ∧ A 39 p = q ∧ m = l.length
    · obtain ⟨hs1, hs2, hs3⟩ := hs
      obtain ⟨es1, es2, o, ho31, ho9⟩ := e3 hs1
      refine k_58s_60_2 hkD of lB hl1 l4 hp8 hq0 e1 hm5 hs1 hs2 hs3 (o := o) ho9 ho31 ?_
      refine Or.inl ⟨_, n, u, _, A, J, 53, 60, X, rfl, ?_⟩
      refine ⟨0, n, u, _, A, J, _, 53, 60, X, rfl, by decide, by omega, by omega, by omega, ?_⟩
      refine k_113s (I := va_up (va_up (va_up I 28 (nI 0)) 29 (nI p)) 30 q) (l := 2) (p := p) (m := m) (nn := l.length) h61 l64 hl1 l4 (by decide) hp8 hq0 e2 hm5 hs1 (es1.symm.trans hs2) hs3 ⟨_, S, _, A, rfl, rfl, fun _ => ?_, INV_t h ?_ (Fr_refl _ A) rfl rfl⟩
      · rw [vp_0]
        exact congrArg Int32.toInt64 es2
      · exact Fr_u (Fr_u (Fr_u (Fr_u (Fr_u (Fr_refl _ I) (by decide)) (by decide)) (by decide)) (by decide)) (by decide)
    · have hnsM : ¬ (¬ m = 0 ∧ A 55 (3 * (8 * 2 + p)) = q ∧ m = l.length) := fun z => hs ⟨z.1, (e3 z.1).1.trans z.2.1, z.2.2⟩
      by_cases hor : m = 0 ∨ A 39 p + nI m = q
      · have horM : m = 0 ∨ A 55 (3 * (8 * 2 + p)) + nI m = q := by
          by_cases z : m = 0
          · exact Or.inl z
          · rcases hor with w | w
            · exact Or.inl w
            · exact Or.inr ((congrArg (fun y => y + nI m) (e3 z).1.symm).trans w)
        refine k_58p_60_2 hkD of lB hl1 l4 hp8 hq0 e1 hm5 hs hor (cn := c 2) (N := N 2) (f := F 2) (SG_le hWl.1) hK.1 (fun y hy => (hWl.1.1 y hy).1) hK.2.1 (hK.2.2.2.trans (WL_nx hWl)) hNb (SG_room hWl.1) hn hu ?_ ?_ ?_
        · intro S' f' cn' ha oR I1 A1 f1 g1 hk1 ecb e42 e40 esl es ec eo
          refine Or.inl ⟨_, n, u, I1, A1, J, 53, 60, X, rfl, ?_⟩
          refine ⟨0, n, u, I1, A1, J, _, 53, 60, X, rfl, by decide, by omega, by omega, by omega, ?_⟩
          refine k_113p (l := 2) (p := p) (m := m) (nn := l.length) ((f1 61 (by decide)).trans h61) ((f1 64 (by decide)).trans l64) hl1 l4 (by decide) hp8 hq0 (by rw [g1 55 (by decide)]; exact e2) hm5 (by rw [g1 55 (by decide)]; exact hnsM) (by rw [g1 55 (by decide)]; exact horM) (mD_of of m1 m2 f1 g1 (by decide) (by decide)) of hWl.1 hWl.2.1 (WL_nx hWl) hNb rfl (fun x hx => by rw [g1 51 (by decide)]; exact lT x hx) ?_ ?_ ?_
          · intro S2 f2' cn2' ha2 o2 I2 A2 f2 g2 hm2 e60 e64 e55
            have eS := Option.some.inj (ha.symm.trans ha2)
            have eS1 : S2 = S' := (congrArg Prod.fst eS).symm
            subst eS1
            obtain ⟨bc', hw⟩ := (ap_WFD (x := nmb (N 2) l) hW of (by decide) hx1 hx4 (nmb_gd lg _) hnum (fun z => absurd z (by decide)) hNb ha).1 oR
            have hab := ap_b hW (by decide) hx4 hNb ha oR
            rw [nmb_len] at hw
            have fI := Fr_cons (Fr_cons (Fr_refl [2, 3, 14, 15, 46, 48, 29, 30, 28, 60, 62, 63, 64, 65, 66, 67, 68, 71] I) f1 (by decide)) f2 (by decide)
            have gA := Fr_cons (Fr_cons (Fr_refl [0, 3, 4, 38, 25, 39, 40, 41, 50, 51, 52, 54, 55] A) g1 (by decide)) g2 (by decide)
            have hwl := hw.1 2 (by decide)
            rw [upl_s, upl_s, upl_s] at hwl
            have hL : LK 2 (dD S2) f' bc' cn' I2 A2 := ⟨(f2 46 (by decide)).trans e40, fun j hj => by rw [g2 38 (by decide)]; exact esl j hj, (fI 47 (by decide)).trans (hK.2.2.1.trans hab.2.symm), (f2 48 (by decide)).trans (e42.trans (WL_nx hwl).symm)⟩
            have hwo : ∀ m, m < 4 → ¬ m = 2 → WL (dD S2) m (F m) bc' (c m) (N m) := fun m hm e => by
              have h1 := hw.1 m hm
              rw [upl_n e, upl_n e, upl_n e] at h1
              exact h1
            have hN4 : ∀ x, x < 4 → upl N 2 (N 2 + l.length) x ≤ 4 * (k + 1) := fun x hx => by
              have h1 := hNk x hx
              have h2 := hNk 2 (by decide)
              by_cases e : x = 2
              · rw [e, upl_s]
                omega
              · rw [upl_n e]
                omega
            have hKN2 : KNW A2 := KNW_s (l := 2) (o := N 2) hKN hp8 gA (by decide) ((g2 39 (by decide)).trans es) ((g2 40 (by decide)).trans ec) ((g2 41 (by decide)).trans eo) (by rw [e55, g1 55 (by decide)]) l4 (by omega)
            exact ⟨_, S2, I2, A2, rfl, e60, fun _ => vp_0 _ _, INV_p h oR ⟨rgK_lo hk1.1 (Lo_fr f2 (by decide)), by rw [g2 0 (by decide)]; exact hk1.2.1⟩ ⟨hm2.1, hm2.2.1⟩ fI gA (by decide) (by decide) ((f2 28 (by decide)).trans ecb) e64 (⟨hw, hN4, LK_upl hLK hW.1 hwo (fun m hm _ hc => hab.1 m hm hc) hL fI gA (by decide) (by decide), hKN2⟩ : ON (k + 1) S2 I2 A2 (upl F 2 f') bc' (upl c 2 cn') (upl N 2 (N 2 + l.length)))⟩
          · intro S2 f2' cn2' ha2 o2
            have eS1 : S2 = S' := (congrArg Prod.fst (Option.some.inj (ha.symm.trans ha2))).symm
            rw [eS1, oR] at o2
            exact Bool.noConfusion o2
          · intro ha2
            rw [ha] at ha2
            exact absurd ha2 (by simp)
        · intro S' f' cn' ha oR I1 A1 f1 g1 hk1
          refine Or.inr ⟨9, n, u + 6, I1, A1, J, 53, 60, X, rfl, hn.1, by decide, by decide, ?_⟩
          refine ⟨1, n + 1, u + 6, I1, A1, J, B, 53, 60, _, rfl, by decide, by omega, by omega, by omega, ?_⟩
          refine k_113p (l := 2) (p := p) (m := m) (nn := l.length) ((f1 61 (by decide)).trans h61) ((f1 64 (by decide)).trans l64) hl1 l4 (by decide) hp8 hq0 (by rw [g1 55 (by decide)]; exact e2) hm5 (by rw [g1 55 (by decide)]; exact hnsM) (by rw [g1 55 (by decide)]; exact horM) (mD_up of m1 m2 f1 g1) of hWl.1 hWl.2.1 (WL_nx hWl) hNb rfl (fun x hx => by rw [g1 51 (by decide)]; exact lT x hx) ?_ ?_ ?_
          · intro S2 f2' cn2' ha2 o2
            have eS1 : S2 = S' := (congrArg Prod.fst (Option.some.inj (ha.symm.trans ha2))).symm
            rw [eS1, oR] at o2
            exact Bool.noConfusion o2
          · intro S2 f2' cn2' ha2 o2 I2 A2 f2 g2 hm2 e60
            have eS1 : S2 = S' := (congrArg Prod.fst (Option.some.inj (ha.symm.trans ha2))).symm
            subst eS1
            obtain ⟨F', bc', c', hw⟩ := (ap_WFD (x := nmb (N 2) l) hW of (by decide) hx1 hx4 (nmb_gd lg _) hnum (fun z => absurd z (by decide)) hNb ha).2 oR
            exact ⟨nI 0, S2, I2, A2, rfl, e60, fun q => absurd q (by decide), INV_off (mks_sym hmk) oR hk1 hm2 (Lo_fr f2 (by decide)) (Lo_fr g2 (by decide)) ⟨by rw [g2 53 (by decide), g1 53 (by decide)]; exact h53.1, by rw [g2 53 (by decide), g1 53 (by decide)]; exact h53.2⟩ (Or.inl ⟨rfl, rfl⟩) hw (fun x hx => by have := hNk x hx; omega)⟩
          · intro ha2
            rw [ha] at ha2
            exact absurd ha2 (by simp)
        · intro ha I1 A1 f1 g1 ecb
          refine Or.inr ⟨11, n, u + 6, I1, A1, J, 53, 60, X, rfl, hn.1, by decide, by decide, ?_⟩
          refine ⟨3, n + 1, u + 6, I1, A1, J, B, 53, 60, _, rfl, by decide, by omega, by omega, by omega, ?_⟩
          refine k_113p (l := 2) (p := p) (m := m) (nn := l.length) ((f1 61 (by decide)).trans h61) ((f1 64 (by decide)).trans l64) hl1 l4 (by decide) hp8 hq0 (by rw [g1 55 (by decide)]; exact e2) hm5 (by rw [g1 55 (by decide)]; exact hnsM) (by rw [g1 55 (by decide)]; exact horM) (mD_of of m1 m2 f1 g1 (by decide) (by decide)) of hWl.1 hWl.2.1 (WL_nx hWl) hNb rfl (fun x hx => by rw [g1 51 (by decide)]; exact lT x hx) ?_ ?_ ?_
          · intro S2 f2' cn2' ha2
            rw [ha] at ha2
            exact absurd ha2 (by simp)
          · intro S2 f2' cn2' ha2
            rw [ha] at ha2
            exact absurd ha2 (by simp)
          · intro _ I2 A2 f2 g2 e60 e64
            exact ⟨nI 0, S, I2, A2, rfl, e60, fun q => absurd q (by decide), INV_t h (Fr_cons (Fr_cons (Fr_refl _ I) f1 (by decide)) f2 (by decide)) (Fr_cons (Fr_cons (Fr_refl _ A) g1 (by decide)) g2 (by decide)) ((f2 28 (by decide)).trans ecb) e64⟩
      · have hm0 : ¬ m = 0 := fun z => hor (Or.inl z)
        have hor1 : ¬ A 39 p + nI m = q := fun z => hor (Or.inr z)
        refine k_58o_60_2 hkD of lB hl1 l4 hp8 hq0 e1 hm5 hs hm0 hor1 hn hu ?_
        refine Or.inr ⟨11, n, u + 6, _, A, J, 53, 60, X, rfl, hn.1, by decide, by decide, ?_⟩
        refine ⟨3, n + 1, u + 6, _, A, J, B, 53, 60, _, rfl, by decide, by omega, by omega, by omega, ?_⟩
        refine k_113o (I := va_up (va_up (va_up I 28 (nI 0)) 29 (nI p)) 30 q) (l := 2) (p := p) (m := m) (nn := l.length) h61 l64 hl1 l4 (by decide) hp8 hq0 e2 hm5 hnsM hm0 ?_ ⟨_, S, _, A, rfl, rfl, fun q => absurd q (by decide), INV_t h ?_ (Fr_refl _ A) rfl rfl⟩
        · rw [← (e3 hm0).1]
          exact hor1
        · exact Fr_u (Fr_u (Fr_u (Fr_u (Fr_u (Fr_u (Fr_refl _ I) (by decide)) (by decide)) (by decide)) (by decide)) (by decide)) (by decide)
end S99a
