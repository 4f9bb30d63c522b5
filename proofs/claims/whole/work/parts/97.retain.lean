/-! What holds after a call that writes; retain. -/
def KNW (A : Nat → Nat → Int32) : Prop := (∃ a : Nat → Nat → KT, ∀ l, l < 4 → KC l A (a l) ∧ KM l A (a l) ∧ ∀ p, p < 8 → (a l p).2.1 ≤ 4 ∧ (¬ (a l p).2.1 = 0 → ∃ o, o < 2 ^ 31 ∧ (a l p).2.2 = nI o)) ∧ (∃ cc : Nat → Int32, ∀ x, x < 32 → A 1 x = cc x ∧ A 56 x = cc x + 1)
theorem KNW_fr {A A' : Nat → Nat → Int32} {Y : List Nat} (h : KNW A) (g : Fr Y A A') (hy : 1 ∉ Y ∧ 55 ∉ Y ∧ 56 ∉ Y ∧ ∀ l, l < 4 → 31 + 4 * l ∉ Y ∧ 32 + 4 * l ∉ Y ∧ 33 + 4 * l ∉ Y) : KNW A' := by
  obtain ⟨⟨a, ha⟩, ⟨cc, hc⟩⟩ := h
  refine ⟨⟨a, fun l hl => ⟨KC_fr (ha l hl).1 g (hy.2.2.2 l hl), KM_eq (ha l hl).2.1 (fun x _ _ => by rw [g 55 hy.2.1]), (ha l hl).2.2⟩⟩, ⟨cc, fun x hx' => ?_⟩⟩
  rw [g 1 hy.1, g 56 hy.2.2.1]
  exact hc x hx'
/-- the registers and arrays of a side are left alone -/
def Lo {α : Type} (b : Nat) (I I' : Nat → α) : Prop := ∀ r, r < b → I' r = I r
theorem Lo_fr {α : Type} {b : Nat} {S : List Nat} {I I' : Nat → α} (f : Fr S I I') (h : ∀ x ∈ S, b ≤ x) : Lo b I I' := fun r hr => f r (fun q => absurd (h r q) (by omega))
theorem rgK_lo {S : DS} {I I' : Nat → Int32} (h : rgK S I) (f : Lo 60 I I') : rgK S I' := by
  refine ⟨(f 0 (by decide)).trans h.1, fun q => ?_, (f 3 (by decide)).trans h.2.2⟩
  have h2 := h.2.1 q
  cases e : dC S with
  | none =>
    rw [e] at h2
    exact (f 1 (by decide)).trans h2
  | some x =>
    rw [e] at h2
    exact ⟨(f 1 (by decide)).trans h2.1, (f 2 (by decide)).trans h2.2.1, h2.2.2⟩
theorem rgM_up {S : DS} {I I' : Nat → Int32} (h : rgM S I) (f : Up 60 I I') : rgM S I' := by
  refine ⟨(f 61 (by decide)).trans h.1, ?_, (f 62 (by decide)).trans h.2.2⟩
  have h2 := h.2.1
  cases e : dC S with
  | none =>
    rw [e] at h2
    exact (f 63 (by decide)).trans h2
  | some x =>
    rw [e] at h2
    exact ⟨(f 63 (by decide)).trans h2.1, h2.2⟩
theorem mD_up {S : DS} {I I' : Nat → Int32} {A A' : Nat → Nat → Int32} (of : dO S = false) (m1 : rgM S I) (m2 : DK (A 50) (dD S)) (f : Up 60 I I') (g : Up 50 A A') : mD S I' A' := ⟨rgM_up m1 f, by rw [g 50 (by decide)]; exact m2, fun q => by rw [of] at q; exact Bool.noConfusion q⟩
theorem mD_of {S : DS} {I I' : Nat → Int32} {A A' : Nat → Nat → Int32} {X Y : List Nat} (of : dO S = false) (m1 : rgM S I) (m2 : DK (A 50) (dD S)) (f : Fr X I I') (g : Fr Y A A') (hx : 61 ∉ X ∧ 62 ∉ X ∧ 63 ∉ X) (hy : 50 ∉ Y) : mD S I' A' := ⟨rgM_fr m1 f hx, by rw [g 50 hy]; exact m2, fun q => by rw [of] at q; exact Bool.noConfusion q⟩
theorem kD_of {mk : Nat} {S : DS} {I : Nat → Int32} {A : Nat → Nat → Int32} (of : dO S = false) (h : rgK S I ∧ DK (A 0) (dD S)) : kD mk S I A := ⟨h.1, h.2, fun q => by rw [of] at q; exact Bool.noConfusion q⟩
/-- after a call during which the power went -/
theorem INV_off {k : Nat} {S : DS} {I I' : Nat → Int32} {A A' : Nat → Nat → Int32} {mk sn : Nat} {D1 : Nat → Nat} {w : Nat} {F : Nat → Nat → Nat} {bc c N : Nat → Nat} (hmk : mks mk sn) (ho : dO S = true) (hK : kD mk S I A) (hM : mD S I' A') (f : Lo 60 I I') (g : Lo 50 A A') (h53 : A' 53 4 = nI 0 ∧ A' 53 16 = nI 0) (hr : ROK (dD S) D1 w) (hW : WFD D1 F bc c N) (hN : ∀ l, l < 4 → N l ≤ 4 * k) : INV k S I' A' mk sn := by
  obtain ⟨k1, k2, k3⟩ := hK
  obtain ⟨m1, m2, m3⟩ := hM
  have k3 := k3 ho
  have m3 := m3 ho
  have hoK : offK I' A' := by
    obtain ⟨a1, a2, a3, a4⟩ := offK_of k3
    refine ⟨(f 16 (by decide)).trans a1, (f 11 (by decide)).trans a2, fun x hx => by rw [g 1 (by decide)]; exact a3 x hx, fun i hi => ⟨(f _ (by omega)).trans (a4 i hi).1, (f _ (by omega)).trans (a4 i hi).2.1, (f _ (by omega)).trans (a4 i hi).2.2.1, fun p hp => by rw [g _ (by omega)]; exact (a4 i hi).2.2.2 p hp⟩⟩
  have hoM := offM_of m3
  have hcb : I' (cb mk) = nI 0 := by
    have e : cb mk < 60 := by
      unfold cb
      split <;> decide
    exact (f _ e).trans k3.1
  have hcb2 : 22 + 3 * bi mk = cb mk := by
    rcases hmk with ⟨e, _⟩ | ⟨e, _⟩ <;> subst e <;> rfl
  refine ⟨⟨rgK_lo k1 f, by rw [g 0 (by decide)]; exact k2⟩, ⟨m1, m2⟩, hmk, ⟨[], Nat.zero_le _, fun r hr => absurd hr (List.not_mem_nil), ⟨by rw [hcb2]; exact hcb, fun k hk => absurd hk (Nat.not_lt_zero k)⟩, m3.1, fun k hk => absurd hk (Nat.not_lt_zero k)⟩, ⟨[], Nat.zero_le _, ⟨hoK.1, fun k hk => absurd hk (Nat.not_lt_zero k)⟩, ⟨hoM.1, fun k hk => absurd hk (Nat.not_lt_zero k)⟩⟩, hoK.2.1.trans hoM.2.1.symm, h53, fun q => by rw [ho] at q; exact Bool.noConfusion q, fun _ => ⟨hoK, hoM, D1, w, F, bc, c, N, hr, hW, hN⟩⟩
/-- after a call that wrote and left the batch that is being made and what was found alone -/
theorem INV_w {k k' : Nat} {S S' : DS} {I I' : Nat → Int32} {A A' : Nat → Nat → Int32} {mk sn : Nat} {F : Nat → Nat → Nat} {bc c N : Nat → Nat} {X Y : List Nat} (h : INV k S I A mk sn) (of : dO S' = false) (hK : rgK S' I' ∧ DK (A' 0) (dD S')) (hM : rgM S' I' ∧ DK (A' 50) (dD S')) (f : Fr X I I') (g : Fr Y A A') (hx : 11 ∉ X ∧ 16 ∉ X ∧ 28 ∉ X ∧ 31 ∉ X ∧ 64 ∉ X ∧ 69 ∉ X ∧ 70 ∉ X) (hy : (∀ r, r < 5 → 5 + r ∉ Y) ∧ (∀ r, r < 10 → 20 + r ∉ Y) ∧ 51 ∉ Y ∧ 53 ∉ Y ∧ 57 ∉ Y) (hO : ON k' S' I' A' F bc c N) : INV k' S' I' A' mk sn := by
  obtain ⟨_, _, hm, ⟨l, l4, lg, lB, l64, lT⟩, ⟨fl, f1, f2, f3⟩, h11, h53, _, _⟩ := h
  refine ⟨hK, hM, hm, ⟨l, l4, lg, ?_, (f 64 hx.2.2.2.2.1).trans l64, fun x hx' => by rw [g 51 hy.2.2.1]; exact lT x hx'⟩, ⟨fl, f1, FC_fr f2 f g hx.2.1 (hy.1 0 (by decide)) (hy.1 1 (by decide)) (hy.1 2 (by decide)) (hy.1 3 (by decide)) (hy.1 4 (by decide)), FM_fr2 f3 f g hx.2.2.2.2.2.1 hy.2.2.2.2⟩, ((f 11 hx.1).trans h11).trans (f 70 hx.2.2.2.2.2.2).symm, ⟨by rw [g 53 hy.2.2.2.1]; exact h53.1, by rw [g 53 hy.2.2.2.1]; exact h53.2⟩, fun _ => ⟨F, bc, c, N, hO⟩, fun q => by rw [of] at q; exact Bool.noConfusion q⟩
  rcases hm with ⟨e, _⟩ | ⟨e, _⟩
  · subst e
    have hB : BC 2 I A l := lB
    refine (⟨(f 28 hx.2.2.1).trans hB.1, fun x hx => ?_⟩ : BC 2 I' A' l)
    rw [g _ (hy.2.1 0 (by decide)), g _ (hy.2.1 1 (by decide)), g _ (hy.2.1 2 (by decide)), g _ (hy.2.1 3 (by decide)), g _ (hy.2.1 4 (by decide))]
    exact hB.2 x hx
  · subst e
    have hB : BC 3 I A l := lB
    refine (⟨(f 31 hx.2.2.2.1).trans hB.1, fun x hx => ?_⟩ : BC 3 I' A' l)
    rw [g _ (hy.2.1 5 (by decide)), g _ (hy.2.1 6 (by decide)), g _ (hy.2.1 7 (by decide)), g _ (hy.2.1 8 (by decide)), g _ (hy.2.1 9 (by decide))]
    exact hB.2 x hx
/-- what the class knows of the logs, when one was written -/
theorem LK_upl {D D' : Nat → Nat} {l c' : Nat} {F : Nat → Nat → Nat} {f' bc bc' c N : Nat → Nat} {I I' : Nat → Int32} {A A' : Nat → Nat → Int32} {X Y : List Nat} (hK : ∀ m, m < 4 → LK m D (F m) bc (c m) I A) (hW : ∀ m, m < 4 → WL D m (F m) bc (c m) (N m)) (hW' : ∀ m, m < 4 → ¬ m = l → WL D' m (F m) bc' (c m) (N m)) (hb : ∀ m, m < 4 → ¬ m = l → 0 < c m → bB D' (F m 0) = bB D (F m 0)) (hL : LK l D' f' bc' c' I' A') (fr : Fr X I I') (g : Fr Y A A') (hx : ∀ m, m < 4 → ¬ m = l → 40 + 3 * m ∉ X ∧ 41 + 3 * m ∉ X ∧ 42 + 3 * m ∉ X) (hy : ∀ m, m < 4 → ¬ m = l → 30 + 4 * m ∉ Y) : ∀ m, m < 4 → LK m D' (upl F l f' m) bc' (upl c l c' m) I' A' := fun m hm => by
  by_cases e : m = l
  · rw [e, upl_s, upl_s]
    exact hL
  · rw [upl_n e, upl_n e]
    exact LK_oth (hK m hm) (hW m hm) (hW' m hm e) (hb m hm e) fr g (hx m hm e) (hy m hm e)
theorem upl_WL {D : Nat → Nat} {l c' : Nat} {F : Nat → Nat → Nat} {f' bc c N : Nat → Nat} (h : ∀ m, m < 4 → WL D m (upl F l f' m) bc (upl c l c' m) (N m)) : ∀ m, m < 4 → ¬ m = l → WL D m (F m) bc (c m) (N m) := fun m hm e => by
  have h1 := h m hm
  rw [upl_n e, upl_n e] at h1
  exact h1
theorem WL_ne {D : Nat → Nat} {l n N : Nat} {f bc : Nat → Nat} (h : WL D l f bc n N) : ∀ k, k + 1 < n → 1 ≤ bc (f k) := fun k hk => by
  have h1 := h.2.2.1 k hk
  rcases Nat.eq_zero_or_pos (bc (f k)) with e | e
  · exact absurd (by show sRs D (f k) (bc (f k)) = []; rw [e]; rfl) h1
  · exact e
section S97
variable {n u : Nat} {I : Nat → Int32} {A : Nat → Nat → Int32} {J : Int64} {B : Nat → Int64} {mk sn L : Nat} {xs : Nat → Int32} {X : Nat → mC} {D : Nat → Nat} {S : DS} {k : Nat}
set_option maxRecDepth 100000 in
set_option maxHeartbeats 4000000 in
theorem op_retain (h : INV k S I A mk sn) (hn : 77 ≤ n ∧ n < 10000) (hu : u + 6 < 1000000) (a t : Int32) : mq 103 0 [some (.ref 1), some (.int a), some (.int t), some (.ref 76), none] [] (hS n u I A J B mk sn L xs X) (twx 151 [some (.ref 67), some (.int a), some (.int t), none] (k + 1) n u L xs) := by
  have h' := h
  obtain ⟨⟨k1, k2⟩, ⟨m1, m2⟩, hmk, _, _, _, h53, hon, hoff⟩ := h
  refine w_103 ?_
  by_cases ho : dO S = true
  · have h0 : I 0 = nI 0 := by
      rw [k1.1, ho]
      rfl
    have h61 : I 61 = nI 1 := by
      rw [m1.1, ho]
      rfl
    refine k_104x h0 hn hu (Or.inr ⟨9, n, u + 6, I, A, J, mk, sn, X, rfl, hn.1, by decide, by decide, ?_⟩)
    refine ⟨1, n + 1, u + 6, I, A, J, B, mk, sn, _, rfl, by decide, by omega, by omega, by omega, ?_⟩
    exact k_151x h61 ⟨nI 0, S, va_up I 60 (nI 1), A, rfl, rfl, fun q => absurd q (by decide), INV_60 h' _⟩
  · have of := ne_true ho
    have h61 : I 61 = nI 0 := by
      rw [m1.1, of]
      rfl
    have hkD : kD mk S I A := kD_of of ⟨k1, k2⟩
    have badl : (a < 0 ∨ nI 2 ≤ a) → mq 104 0 [some (.ref 1), some (.int a), some (.int t), none, none, none, none, none] [] (hS n u I A J B mk sn L xs X) (wQ cd103 B L xs (twx 151 [some (.ref 67), some (.int a), some (.int t), none] (k + 1) n u L xs)) := fun hx => by
      refine k_104b hkD of hx hn hu (Or.inr ⟨10, n, u + 6, I, A, J, mk, sn, X, rfl, hn.1, by decide, by decide, ?_⟩)
      refine ⟨2, n + 1, u + 6, I, A, J, B, mk, sn, _, rfl, by decide, by omega, by omega, by omega, ?_⟩
      exact k_151b h61 hx ⟨nI 0, S, va_up I 60 (nI 2), A, rfl, rfl, fun q => absurd q (by decide), INV_60 h' _⟩
    rcases pk_ix a (n := 2) (by decide) with h1 | h1 | ⟨l, hl, el⟩
    · exact badl (Or.inl h1)
    · exact badl (Or.inr h1)
    subst el
    obtain ⟨F, bc, c, N, hW, hNk, hLK, hKN⟩ := hon of
    have hWl := hW.1 l (by omega)
    have hK := hLK l (by omega)
    obtain ⟨R, hR⟩ : ∃ R, R = rt (t.toInt64 - 1000) bc 16 S (F l) (c l) 0 := ⟨_, rfl⟩
    obtain ⟨w1, w2⟩ := rt_WFD (l := l) (by omega) 16 hW of R hR
    have hbB : ∀ s, bB (dD R.1) s = bB (dD S) s := fun s => by
      rw [hR]
      exact rt_bB 16 s
    have hN4 : ∀ l, l < 4 → N l ≤ 4 * (k + 1) := fun x hx => by
      have := hNk x hx
      omega
    match l, hl, hWl, hK, hR, w1 with
    | 0, _, hWl, hK, hR, w1 =>
      refine k_104_0 hkD of (cn := c 0) (f := F 0) (bc := bc) hmk hn hu hWl.1 hWl.2.1 hK.1 hK.2.1 hK.2.2.1 ?_ ?_
      · rw [← hR]
        intro oR I1 A1 f1 g1 hk1 e40 esl e41
        refine Or.inl ⟨_, n, u, I1, A1, J, mk, sn, X, rfl, ?_⟩
        refine ⟨0, n, u, I1, A1, J, _, mk, sn, X, rfl, by decide, by omega, by omega, by omega, ?_⟩
        refine k_151 (mD_of of m1 m2 f1 g1 (by decide) (by decide)) of (l := 0) (cn := c 0) (f := F 0) (bc := bc) (by decide) hWl.1 hWl.2.1 (WL_ne hWl) ?_ ?_
        · rw [← hR]
          intro _ I2 A2 f2 g2 hm2 e60
          have hw := w1 oR
          have fI := Fr_cons (Fr_cons (Fr_refl [2, 3, 4, 5, 6, 7, 8, 9, 10, 15, 20, 21, 22, 40, 41, 60, 62, 63, 65, 66, 67, 71] I) f1 (by decide)) f2 (by decide)
          have gA := Fr_cons (Fr_cons (Fr_refl [0, 4, 10, 11, 12, 13, 14, 30, 50, 52] A) g1 (by decide)) g2 (by decide)
          have hwl := hw.1 0 (by decide)
          rw [upl_s, upl_s] at hwl
          have hL : LK 0 (dD R.1) R.2.1 bc R.2.2.1 I2 A2 := by
            refine ⟨(f2 40 (by decide)).trans e40, fun j hj => by rw [g2 30 (by decide)]; exact esl j hj, (f2 41 (by decide)).trans e41, ?_⟩
            exact (fI 42 (by decide)).trans (hK.2.2.2.trans ((WL_nx hWl).trans (WL_nx hwl).symm))
          refine ⟨_, R.1, I2, A2, rfl, e60, fun _ => vp_0 _ _, INV_w h' oR ⟨rgK_lo hk1.1 (Lo_fr f2 (by decide)), by rw [g2 0 (by decide)]; exact hk1.2.1⟩ ⟨hm2.1, hm2.2.1⟩ fI gA (by decide) (by decide) (⟨hw, hN4, LK_upl hLK hW.1 (upl_WL hw.1) (fun m _ _ _ => hbB _) hL fI gA (by decide) (by decide), KNW_fr hKN gA (by decide)⟩ : ON (k + 1) R.1 I2 A2 (upl F 0 R.2.1) bc (upl c 0 R.2.2.1) N)⟩
        · rw [← hR]
          intro q
          rw [oR] at q
          exact Bool.noConfusion q
      · rw [← hR]
        intro oR I1 A1 f1 g1 hk1
        refine Or.inr ⟨9, n, u + 6, I1, A1, J, mk, sn, X, rfl, hn.1, by decide, by decide, ?_⟩
        refine ⟨1, n + 1, u + 6, I1, A1, J, B, mk, sn, _, rfl, by decide, by omega, by omega, by omega, ?_⟩
        refine k_151 (mD_up of m1 m2 f1 g1) of (l := 0) (cn := c 0) (f := F 0) (bc := bc) (by decide) hWl.1 hWl.2.1 (WL_ne hWl) ?_ ?_
        · rw [← hR]
          intro q
          rw [oR] at q
          exact Bool.noConfusion q
        · rw [← hR]
          intro _ I2 A2 f2 g2 hm2 e60
          obtain ⟨F', c', hw⟩ := w2 oR
          exact ⟨nI 0, R.1, I2, A2, rfl, e60, fun q => absurd q (by decide), INV_off hmk oR hk1 hm2 (Lo_fr f2 (by decide)) (Lo_fr g2 (by decide)) ⟨by rw [g2 53 (by decide), g1 53 (by decide)]; exact h53.1, by rw [g2 53 (by decide), g1 53 (by decide)]; exact h53.2⟩ (Or.inl ⟨rfl, rfl⟩) hw hN4⟩
    | 1, _, hWl, hK, hR, w1 =>
      refine k_104_1 hkD of (cn := c 1) (f := F 1) (bc := bc) hmk hn hu hWl.1 hWl.2.1 hK.1 hK.2.1 hK.2.2.1 ?_ ?_
      · rw [← hR]
        intro oR I1 A1 f1 g1 hk1 e40 esl e41
        refine Or.inl ⟨_, n, u, I1, A1, J, mk, sn, X, rfl, ?_⟩
        refine ⟨0, n, u, I1, A1, J, _, mk, sn, X, rfl, by decide, by omega, by omega, by omega, ?_⟩
        refine k_151 (mD_of of m1 m2 f1 g1 (by decide) (by decide)) of (l := 1) (cn := c 1) (f := F 1) (bc := bc) (by decide) hWl.1 hWl.2.1 (WL_ne hWl) ?_ ?_
        · rw [← hR]
          intro _ I2 A2 f2 g2 hm2 e60
          have hw := w1 oR
          have fI := Fr_cons (Fr_cons (Fr_refl [2, 3, 4, 5, 6, 7, 8, 9, 10, 15, 20, 21, 22, 43, 44, 60, 62, 63, 65, 66, 67, 71] I) f1 (by decide)) f2 (by decide)
          have gA := Fr_cons (Fr_cons (Fr_refl [0, 4, 10, 11, 12, 13, 14, 34, 50, 52] A) g1 (by decide)) g2 (by decide)
          have hwl := hw.1 1 (by decide)
          rw [upl_s, upl_s] at hwl
          have hL : LK 1 (dD R.1) R.2.1 bc R.2.2.1 I2 A2 := by
            refine ⟨(f2 43 (by decide)).trans e40, fun j hj => by rw [g2 34 (by decide)]; exact esl j hj, (f2 44 (by decide)).trans e41, ?_⟩
            exact (fI 45 (by decide)).trans (hK.2.2.2.trans ((WL_nx hWl).trans (WL_nx hwl).symm))
          refine ⟨_, R.1, I2, A2, rfl, e60, fun _ => vp_0 _ _, INV_w h' oR ⟨rgK_lo hk1.1 (Lo_fr f2 (by decide)), by rw [g2 0 (by decide)]; exact hk1.2.1⟩ ⟨hm2.1, hm2.2.1⟩ fI gA (by decide) (by decide) (⟨hw, hN4, LK_upl hLK hW.1 (upl_WL hw.1) (fun m _ _ _ => hbB _) hL fI gA (by decide) (by decide), KNW_fr hKN gA (by decide)⟩ : ON (k + 1) R.1 I2 A2 (upl F 1 R.2.1) bc (upl c 1 R.2.2.1) N)⟩
        · rw [← hR]
          intro q
          rw [oR] at q
          exact Bool.noConfusion q
      · rw [← hR]
        intro oR I1 A1 f1 g1 hk1
        refine Or.inr ⟨9, n, u + 6, I1, A1, J, mk, sn, X, rfl, hn.1, by decide, by decide, ?_⟩
        refine ⟨1, n + 1, u + 6, I1, A1, J, B, mk, sn, _, rfl, by decide, by omega, by omega, by omega, ?_⟩
        refine k_151 (mD_up of m1 m2 f1 g1) of (l := 1) (cn := c 1) (f := F 1) (bc := bc) (by decide) hWl.1 hWl.2.1 (WL_ne hWl) ?_ ?_
        · rw [← hR]
          intro q
          rw [oR] at q
          exact Bool.noConfusion q
        · rw [← hR]
          intro _ I2 A2 f2 g2 hm2 e60
          obtain ⟨F', c', hw⟩ := w2 oR
          exact ⟨nI 0, R.1, I2, A2, rfl, e60, fun q => absurd q (by decide), INV_off hmk oR hk1 hm2 (Lo_fr f2 (by decide)) (Lo_fr g2 (by decide)) ⟨by rw [g2 53 (by decide), g1 53 (by decide)]; exact h53.1, by rw [g2 53 (by decide), g1 53 (by decide)]; exact h53.2⟩ (Or.inl ⟨rfl, rfl⟩) hw hN4⟩
end S97
