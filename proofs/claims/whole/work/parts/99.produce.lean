/-! produce keeps what holds: what is needed. -/
theorem apW_b {D : Nat → Nat} {s m : Nat} {t : List Nat} (hs : s < 16) (hm : 8 ≤ m) (hmt : m + t.length ≤ 128) (y : Nat) : bB (dWs D (apW s m t)) y = bB D y := by
  have hd := apW_D (D := D) (t := t) hs hm hmt
  obtain ⟨D', hD'⟩ : ∃ D', D' = dWs D (apW s m t) := ⟨_, rfl⟩
  rw [← hD'] at hd ⊢
  by_cases e : y = s
  · rw [e]
    show D' (128 * s + 4) * 2 ^ 24 + D' (128 * s + 5) * 2 ^ 16 + D' (128 * s + 6) * 2 ^ 8 + D' (128 * s + 7) = _
    rw [hd.2.1 4 (by decide) (by omega), hd.2.1 5 (by decide) (by omega), hd.2.1 6 (by decide) (by omega), hd.2.1 7 (by decide) (by omega)]
    rfl
  · exact (hd_same (fun i hi _ _ => hd.1 _ (by omega))).2
/-- what append leaves alone: bases, and where the log starts -/
theorem ap_b {S S' : DS} {F : Nat → Nat → Nat} {bc c N f' : Nat → Nat} {l cn' : Nat} {p q : Int32} {x : List R5} (h : WFD (dD S) F bc c N) (hl : l < 4) (hx4 : x.length ≤ 4) (hN : N l + 4 < 2 ^ 31) (ha : apS S l (F l) (c l) (N l) p q x = some (S', f', cn')) (o : dO S' = false) : (∀ m, m < 4 → 0 < c m → bB (dD S') (F m 0) = bB (dD S) (F m 0)) ∧ stO (dD S') f' l cn' = stO (dD S) (F l) l (c l) := by
  unfold apS at ha
  by_cases hfit : 0 < c l ∧ mB (dD S) (F l (c l - 1)) + (eBt (nI (bB (dD S) (F l (c l - 1)))) p q x).length ≤ 128
  · rw [if_pos hfit] at ha
    have e := Option.some.inj ha
    have e1 : S' = wrs S (apW (F l (c l - 1)) (mB (dD S) (F l (c l - 1))) (eBt (nI (bB (dD S) (F l (c l - 1)))) p q x)) := (congrArg Prod.fst e).symm
    have e2 : f' = F l := (congrArg (fun z => z.2.1) e).symm
    have e3 : cn' = c l := (congrArg (fun z => z.2.2) e).symm
    have hWl := h.1 l hl
    have hsl := hWl.1.1 (c l - 1) (by omega)
    have h8 := WS_8 (hWl.2.1 (c l - 1) (by omega))
    rw [e1] at o
    have hb : ∀ y, bB (dD S') y = bB (dD S) y := fun y => by
      rw [e1, (wrs_on o).2]
      exact apW_b hsl.1 (by omega) hfit.2 y
    refine ⟨fun m _ _ => hb _, ?_⟩
    unfold stO
    rw [e2, e3, hb]
  · rw [if_neg hfit] at ha
    by_cases hfr : frS (dD S) 16 0 = -1
    · rw [if_pos hfr] at ha
      exact absurd ha (by simp)
    · rw [if_neg hfr] at ha
      obtain ⟨r, hr⟩ : ∃ r, r = frN (dD S) 16 0 := ⟨_, rfl⟩
      rw [← hr] at ha
      have hrr : r < 16 ∧ oB (dD S) r = 0 := by
        rw [hr]
        rcases frN_spec (dD S) 16 0 with h5 | h5
        · exact absurd h5.1 hfr
        · exact ⟨by omega, h5.2.2.2⟩
      have e := Option.some.inj ha
      have e1 : S' = wrs S (hdW r l (N l) :: apW r 8 (eBt (nI (N l)) p q x)) := (congrArg Prod.fst e).symm
      have e2 : f' = (fun k => if k = c l then r else F l k) := (congrArg (fun z => z.2.1) e).symm
      have e3 : cn' = c l + 1 := (congrArg (fun z => z.2.2) e).symm
      have hlen := eBt_len (nI (N l)) p q x
      have hne : 0 < c l → ¬ sRs (dD S) (F l (c l - 1)) (bc (F l (c l - 1))) = [] := fun hc => by
        have hW := (h.1 l hl).2.1 (c l - 1) (by omega)
        refine bc_ne hW ?_
        have h1 : ¬ mB (dD S) (F l (c l - 1)) + (eBt (nI (bB (dD S) (F l (c l - 1)))) p q x).length ≤ 128 := fun w => hfit ⟨hc, w⟩
        have h2 := eBt_len (nI (bB (dD S) (F l (c l - 1)))) p q x
        rcases Nat.eq_zero_or_pos (bc (F l (c l - 1))) with h3 | h3
        · have h4 := WS_end hW
          rw [h3] at h4
          have h5 : sb (dD S) (F l (c l - 1)) 0 = 128 * F l (c l - 1) + 8 := rfl
          omega
        · exact h3
      have hh := WFD_hd h hl hrr.1 hrr.2 (by omega) hne
      have hdo : ∀ y, ¬ y = r → bB (dW (dD S) (128 * r) 32 (gB0 (hdr 8 (l + 1) 0 (N l)))) y = bB (dD S) y := fun y hy => (hd_same (fun i hi _ _ => dW_out (by omega))).2
      obtain ⟨D1, hD1⟩ : ∃ D1, D1 = dW (dD S) (128 * r) 32 (gB0 (hdr 8 (l + 1) 0 (N l))) := ⟨_, rfl⟩
      rw [← hD1] at hh hdo
      rw [e1] at o
      have hb : ∀ y, bB (dD S') y = bB D1 y := fun y => by
        have hd : dD (wrs S (hdW r l (N l) :: apW r 8 (eBt (nI (N l)) p q x))) = dWs D1 (apW r 8 (eBt (nI (N l)) p q x)) := by
          rw [(wrs_on o).2, hD1]
          rfl
        rw [e1, hd]
        exact apW_b hrr.1 (by decide) (by omega) y
      have hm0 : ∀ m, m < 4 → 0 < c m → ¬ F m 0 = r := fun m hm hc er => by
        have := (h.1 m hm).1.1 0 hc
        rw [er] at this
        omega
      refine ⟨fun m hm hc => by rw [hb, hdo _ (hm0 m hm hc)], ?_⟩
      unfold stO
      by_cases h1 : 1 < l
      · rw [if_pos (Or.inl h1), if_pos (Or.inl h1)]
      · rw [e3, if_neg (by omega)]
        by_cases h0 : c l = 0
        · have hN0 := (h.1 l hl).2.2.2.2.2.1 h0
          rw [if_pos (Or.inr h0), hb, e2]
          show nI (bB D1 (if 0 = c l then r else F l 0)) = nI 0
          rw [if_pos h0.symm, hh.2.2, hN0]
        · rw [if_neg (by omega), hb, e2]
          show nI (bB D1 (if 0 = c l then r else F l 0)) = _
          rw [if_neg (fun z => h0 z.symm), hdo _ (hm0 l hl (by omega))]
theorem mks_sym {mk sn : Nat} (h : mks mk sn) : mks sn mk := by
  rcases h with ⟨e1, e2⟩ | ⟨e1, e2⟩
  · exact Or.inr ⟨e2, e1⟩
  · exact Or.inl ⟨e2, e1⟩
theorem cb_bi {mk sn : Nat} (h : mks mk sn) : 22 + 3 * bi mk = cb mk := by
  rcases h with ⟨e, _⟩ | ⟨e, _⟩ <;> subst e <;> rfl
theorem BC_nil {mk sn : Nat} {I : Nat → Int32} {A : Nat → Nat → Int32} (h : mks mk sn) (e : I (cb mk) = nI 0) : BC (bi mk) I A [] := ⟨by rw [cb_bi h]; exact e, fun k hk => absurd hk (Nat.not_lt_zero k)⟩
/-- the batch was taken and nothing came of it -/
theorem INV_t {k : Nat} {S : DS} {I I' : Nat → Int32} {A A' : Nat → Nat → Int32} {mk sn : Nat} (h : INV k S I A mk sn) (f : Fr [14, 26, 27, 28, 29, 30, 31, 60, 64, 65, 66, 67, 68, 71] I I') (g : Fr [3, 20, 25, 51, 52, 54] A A') (hc : I' (cb sn) = nI 0) (h64 : I' 64 = nI 0) : INV (k + 1) S I' A' sn mk := by
  obtain ⟨⟨k1, k2⟩, ⟨m1, m2⟩, hm, _, ⟨fl, f1, f2, f3⟩, h11, h53, hon, hoff⟩ := h
  refine ⟨⟨rgK_fr k1 f (by decide), by rw [g 0 (by decide)]; exact k2⟩, ⟨rgM_fr m1 f (by decide), by rw [g 50 (by decide)]; exact m2⟩, mks_sym hm, ⟨[], Nat.zero_le _, fun r hr => absurd hr (List.not_mem_nil), BC_nil (mks_sym hm) hc, h64, fun k hk => absurd hk (Nat.not_lt_zero k)⟩, ⟨fl, f1, FC_fr f2 f g (by decide) (by decide) (by decide) (by decide) (by decide) (by decide), FM_fr2 f3 f g (by decide) (by decide)⟩, ((f 11 (by decide)).trans h11).trans (f 70 (by decide)).symm, ⟨by rw [g 53 (by decide)]; exact h53.1, by rw [g 53 (by decide)]; exact h53.2⟩, fun q => ?_, fun q => ?_⟩
  · obtain ⟨F, bc, c, N, ho⟩ := hon q
    exact ⟨F, bc, c, N, ON_fr ho (Nat.le_succ k) f g (fun r h1 h2 => by simp; omega) ⟨fun r h1 h2 => by simp; omega, by decide, by decide, by decide⟩⟩
  · obtain ⟨o1, o2, D1, w, F, bc, c, N, hr, hW, hN⟩ := hoff q
    exact ⟨offK_fr o1 f g ⟨by decide, by decide, fun r h1 h2 => by simp; omega⟩ ⟨fun r h1 h2 => by simp; omega, by decide⟩, offM_fr o2 f g (by decide) (by decide), D1, w, F, bc, c, N, hr, hW, fun l hl => by have := hN l hl; omega⟩
/-- the batch was taken and written -/
theorem INV_p {k k' : Nat} {S S' : DS} {I I' : Nat → Int32} {A A' : Nat → Nat → Int32} {mk sn : Nat} {F : Nat → Nat → Nat} {bc c N : Nat → Nat} {X Y : List Nat} (h : INV k S I A mk sn) (of : dO S' = false) (hK : rgK S' I' ∧ DK (A' 0) (dD S')) (hM : rgM S' I' ∧ DK (A' 50) (dD S')) (f : Fr X I I') (g : Fr Y A A') (hx : 11 ∉ X ∧ 16 ∉ X ∧ 69 ∉ X ∧ 70 ∉ X) (hy : (∀ r, r < 5 → 5 + r ∉ Y) ∧ 53 ∉ Y ∧ 57 ∉ Y) (hc : I' (cb sn) = nI 0) (h64 : I' 64 = nI 0) (hO : ON k' S' I' A' F bc c N) : INV k' S' I' A' sn mk := by
  obtain ⟨_, _, hm, _, ⟨fl, f1, f2, f3⟩, h11, h53, _, _⟩ := h
  exact ⟨hK, hM, mks_sym hm, ⟨[], Nat.zero_le _, fun r hr => absurd hr (List.not_mem_nil), BC_nil (mks_sym hm) hc, h64, fun k hk => absurd hk (Nat.not_lt_zero k)⟩, ⟨fl, f1, FC_fr f2 f g hx.2.1 (hy.1 0 (by decide)) (hy.1 1 (by decide)) (hy.1 2 (by decide)) (hy.1 3 (by decide)) (hy.1 4 (by decide)), FM_fr2 f3 f g hx.2.2.1 hy.2.2⟩, ((f 11 hx.1).trans h11).trans (f 70 hx.2.2.2).symm, ⟨by rw [g 53 hy.2.1]; exact h53.1, by rw [g 53 hy.2.1]; exact h53.2⟩, fun _ => ⟨F, bc, c, N, hO⟩, fun q => by rw [of] at q; exact Bool.noConfusion q⟩
theorem KNW_s {A A' : Nat → Nat → Int32} {Y : List Nat} {l p m o : Nat} {q : Int32} (h : KNW A) (hp : p < 8) (g : Fr Y A A') (hy : 1 ∉ Y ∧ 56 ∉ Y ∧ ∀ x, x < 4 → ¬ x = l → 31 + 4 * x ∉ Y ∧ 32 + 4 * x ∉ Y ∧ 33 + 4 * x ∉ Y) (e1 : A' (31 + 4 * l) = upd (A (31 + 4 * l)) p q) (e2 : A' (32 + 4 * l) = upd (A (32 + 4 * l)) p (nI m)) (e3 : A' (33 + 4 * l) = upd (A (33 + 4 * l)) p (nI o)) (e55 : A' 55 = knw (A 55) l p q m (nI o)) (hm : m ≤ 4) (ho : o < 2 ^ 31) : KNW A' := by
  obtain ⟨⟨a, ha⟩, ⟨cc, hc⟩⟩ := h
  refine ⟨⟨upl a l (fun y => if y = p then (q, m, nI o) else a l y), fun x hx => ?_⟩, ⟨cc, fun x hx' => ?_⟩⟩
  · by_cases e : x = l
    · rw [e, upl_s]
      have h1 := ha l (by omega)
      refine ⟨KC_s h1.1 hp e1 e2 e3 (fun _ => rfl), KM_s h1.2.1 hp e55 (fun _ => rfl), fun y hy' => ?_⟩
      by_cases ey : y = p
      · rw [if_pos ey]
        exact ⟨hm, fun _ => ⟨o, ho, rfl⟩⟩
      · rw [if_neg ey]
        exact h1.2.2 y hy'
    · rw [upl_n e]
      exact ⟨KC_fr (ha x hx).1 g (hy.2.2 x hx e), KM_eq (ha x hx).2.1 (fun y h1 h2 => by rw [e55]; exact knw_out hp (by omega)), (ha x hx).2.2⟩
  · rw [g 1 hy.1, g 56 hy.2.1]
    exact hc x hx'
