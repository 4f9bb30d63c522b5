/-! clean keeps what holds. -/
theorem cl_bB {lim : Int64} {l m : Nat} (hl : l < 4) (hm : m < 4) (hml : ¬ m = l) {N : Nat → Nat} : ∀ (z : Nat) {S : DS} {F : Nat → Nat → Nat} {bc c : Nat → Nat} {i v : Nat}, WFD (dD S) F bc c N → dO S = false → ∀ R, R = cl l lim z S (F l) bc (c l) i v → dO R.1 = false → 0 < c m → bB (dD R.1) (F m 0) = bB (dD S) (F m 0) := by
  intro z
  induction z with
  | zero =>
    intro S F bc c i v h ho R hR _ _
    subst hR
    rfl
  | succ z ih =>
    intro S F bc c i v h ho R hR oR hc
    have hR' : R = (if dO S = true ∨ ¬ i + 1 < c l then (S, F l, bc, c l, v) else if cO (dD S) (F l i) (pm (dD S) (F l) bc (c l) lim (F l i)) (bc (F l i)) = 0 then cl l lim z S (F l) bc (c l) (i + 1) v else if (cF (dD S) (F l i) (pm (dD S) (F l) bc (c l) lim (F l i)) (bc (F l i))).length = 8 then cl l lim z (wr1 S (owW (F l i) 0)) (rmF (F l) i) bc (c l - 1) i (v + cO (dD S) (F l i) (pm (dD S) (F l) bc (c l) lim (F l i)) (bc (F l i))) else if 128 < (cF (dD S) (F l i) (pm (dD S) (F l) bc (c l) lim (F l i)) (bc (F l i))).length ∨ frS (dD S) 16 0 = -1 then (S, F l, bc, c l, v) else cl l lim z (wrs S (mvW (frN (dD S) 16 0) l (F l i) (cF (dD S) (F l i) (pm (dD S) (F l) bc (c l) lim (F l i)) (bc (F l i))))) (fun k => if k = i then frN (dD S) 16 0 else F l k) (fun x => if x = frN (dD S) 16 0 then cC (dD S) (F l i) (pm (dD S) (F l) bc (c l) lim (F l i)) (bc (F l i)) else bc x) (c l) (i + 1) (v + cO (dD S) (F l i) (pm (dD S) (F l) bc (c l) lim (F l i)) (bc (F l i)))) := hR
    by_cases h1 : dO S = true ∨ ¬ i + 1 < c l
    · rw [if_pos h1] at hR'
      rw [hR']
    · rw [if_neg h1] at hR'
      have hi : i + 1 < c l := Decidable.byContradiction (fun q => h1 (Or.inr q))
      by_cases h2 : cO (dD S) (F l i) (pm (dD S) (F l) bc (c l) lim (F l i)) (bc (F l i)) = 0
      · rw [if_pos h2] at hR'
        exact ih h ho R hR' oR hc
      · rw [if_neg h2] at hR'
        by_cases h3 : (cF (dD S) (F l i) (pm (dD S) (F l) bc (c l) lim (F l i)) (bc (F l i))).length = 8
        · rw [if_pos h3] at hR'
          by_cases hw : dO (wr1 S (owW (F l i) 0)) = true
          · rw [cl_off hw] at hR'
            rw [hR'] at oR
            exact Bool.noConfusion (oR.symm.trans hw)
          · have hw' := ne_true hw
            have h4 := WFD_rm h hl hi
            have eD : dD (wr1 S (owW (F l i) 0)) = ow0 (dD S) (F l i) := (wr1_D hw').2
            rw [← eD] at h4
            have h5 := ih (S := wr1 S (owW (F l i) 0)) h4 hw' R (by rw [upl_s, upl_s]; exact hR') oR (by rw [upl_n hml]; exact hc)
            rw [upl_n hml, eD, ow0_b] at h5
            exact h5
        · rw [if_neg h3] at hR'
          by_cases h4 : 128 < (cF (dD S) (F l i) (pm (dD S) (F l) bc (c l) lim (F l i)) (bc (F l i))).length ∨ frS (dD S) 16 0 = -1
          · rw [if_pos h4] at hR'
            rw [hR']
          · rw [if_neg h4] at hR'
            obtain ⟨r, hr⟩ : ∃ r, r = frN (dD S) 16 0 := ⟨_, rfl⟩
            have hrr : r < 16 ∧ oB (dD S) r = 0 := by
              rw [hr]
              rcases frN_spec (dD S) 16 0 with h5 | h5
              · exact absurd (Or.inr h5.1) h4
              · exact ⟨by omega, h5.2.2.2⟩
            have h128 : (cF (dD S) (F l i) (pm (dD S) (F l) bc (c l) lim (F l i)) (bc (F l i))).length ≤ 128 := by omega
            rw [← hr] at hR'
            by_cases hw : dO (wrs S (mvW r l (F l i) (cF (dD S) (F l i) (pm (dD S) (F l) bc (c l) lim (F l i)) (bc (F l i))))) = true
            · rw [cl_off hw] at hR'
              rw [hR'] at oR
              exact Bool.noConfusion (oR.symm.trans hw)
            · have hw' := ne_true hw
              have h6 := WFD_mv h hl hi hrr.1 hrr.2 h3 h128
              rw [← (wrs_on hw').2] at h6
              have h7 := ih (c := c) h6 hw' R (by rw [upl_s]; exact hR') oR hc
              rw [upl_n hml, (wrs_on hw').2] at h7
              have g1 := (h.1 l hl).1.1 i (by omega)
              have g2 := (h.1 m hm).1.1 0 hc
              have hrs : ¬ r = F l i := fun e => by
                rw [e] at hrr
                omega
              have hrm : ¬ F m 0 = r := fun e => by
                rw [← e] at hrr
                omega
              have h8 := (mv_D (D := dD S) hrr.1 g1.1 hrs hl h128).2.2.2.2 (F m 0) g2.1 hrm
              rw [h7]
              exact (SmS_hd (fun x hx h2' _ => h8 x hx h2')).2
section S98
variable {n u : Nat} {I : Nat → Int32} {A : Nat → Nat → Int32} {J : Int64} {B : Nat → Int64} {mk sn L : Nat} {xs : Nat → Int32} {X : Nat → mC} {D : Nat → Nat} {S : DS} {k : Nat}
set_option maxRecDepth 100000 in
set_option maxHeartbeats 4000000 in
theorem op_clean (h : INV k S I A mk sn) (hk : k ≤ 1000) (hn : 77 ≤ n ∧ n < 10000) (hu : u + 6 < 1000000) (a t : Int32) : mq 92 0 [some (.ref 1), some (.int a), some (.int t), some (.ref 76), none] [] (hS n u I A J B mk sn L xs X) (twx 146 [some (.ref 67), some (.int a), some (.int t), none, none, none, none, none, none] (k + 1) n u L xs) := by
  have h' := h
  obtain ⟨⟨k1, k2⟩, ⟨m1, m2⟩, hmk, _, _, _, h53, hon, hoff⟩ := h
  refine w_92 ?_
  by_cases ho : dO S = true
  · have h0 : I 0 = nI 0 := by
      rw [k1.1, ho]
      rfl
    have h61 : I 61 = nI 1 := by
      rw [m1.1, ho]
      rfl
    refine k_93x h0 hn hu (Or.inr ⟨9, n, u + 6, I, A, J, mk, sn, X, rfl, hn.1, by decide, by decide, ?_⟩)
    refine ⟨1, n + 1, u + 6, I, A, J, B, mk, sn, _, rfl, by decide, by omega, by omega, by omega, ?_⟩
    exact k_146x h61 ⟨nI 0, S, va_up I 60 (nI 1), A, rfl, rfl, fun q => absurd q (by decide), INV_60 h' _⟩
  · have of := ne_true ho
    have h61 : I 61 = nI 0 := by
      rw [m1.1, of]
      rfl
    have hkD : kD mk S I A := kD_of of ⟨k1, k2⟩
    have badl : (a < nI 2 ∨ nI 4 ≤ a) → mq 93 0 [some (.ref 1), some (.int a), some (.int t), none, none, none, none, none, none] [] (hS n u I A J B mk sn L xs X) (wQ cd92 B L xs (twx 146 [some (.ref 67), some (.int a), some (.int t), none, none, none, none, none, none] (k + 1) n u L xs)) := fun hx => by
      refine k_93b hkD of hx hn hu (Or.inr ⟨10, n, u + 6, I, A, J, mk, sn, X, rfl, hn.1, by decide, by decide, ?_⟩)
      refine ⟨2, n + 1, u + 6, I, A, J, B, mk, sn, _, rfl, by decide, by omega, by omega, by omega, ?_⟩
      exact k_146b h61 hx ⟨nI 0, S, va_up I 60 (nI 2), A, rfl, rfl, fun q => absurd q (by decide), INV_60 h' _⟩
    rcases pk_ix a (n := 4) (by decide) with h1 | h1 | ⟨l, hl, el⟩
    · exact badl (Or.inl (Int32.lt_of_lt_of_le h1 (by decide)))
    · exact badl (Or.inr h1)
    by_cases hl2 : l < 2
    · refine badl (Or.inl ?_)
      rw [el]
      exact nI_lt hl2 (by decide)
    subst el
    obtain ⟨F, bc, c, N, hW, hNk, hLK, hKN⟩ := hon of
    have hWl := hW.1 l hl
    have hK := hLK l hl
    have hNl : N l ≤ 2 ^ 31 := by
      have := hNk l hl
      omega
    obtain ⟨R, hR⟩ : ∃ R, R = cl l (t.toInt64 - 100) 16 S (F l) bc (c l) 0 0 := ⟨_, rfl⟩
    obtain ⟨w1, w2⟩ := cl_WFD (l := l) hl 16 hW of R hR
    have hbB := fun (m : Nat) (hm : m < 4) (e : ¬ m = l) => cl_bB (l := l) hl hm e 16 hW of R hR
    have hN4 : ∀ l, l < 4 → N l ≤ 4 * (k + 1) := fun x hx => by
      have := hNk x hx
      omega
    match l, hl, hl2, hWl, hK, hNl, hR, w1, hbB with
    | 0, _, hl2, _, _, _, _, _, _ => exact absurd (by decide) hl2
    | 1, _, hl2, _, _, _, _, _, _ => exact absurd (by decide) hl2
    | 2, _, _, hWl, hK, hNl, hR, w1, hbB =>
      refine k_93_2 hkD of (cn := c 2) (f := F 2) (bc := bc) (N := N 2) hmk hn hu hWl hNl hK.1 hK.2.1 ?_ ?_
      · rw [← hR]
        intro oR I1 A1 f1 g1 hk1 e40 esl
        refine Or.inl ⟨_, n, u, I1, A1, _, mk, sn, X, rfl, ?_⟩
        refine ⟨0, n, u, I1, A1, _, _, mk, sn, X, rfl, by decide, by omega, by omega, by omega, ?_⟩
        refine k_146 (mD_of of m1 m2 f1 g1 (by decide) (by decide)) of (l := 2) (cn := c 2) (f := F 2) (bc := bc) (N := N 2) (by decide) (by decide) hWl hNl ?_ ?_
        · rw [← hR]
          intro _ I2 A2 f2 g2 hm2 e60
          have hw := w1 oR
          have fI := Fr_cons (Fr_cons (Fr_refl [2, 3, 4, 5, 6, 7, 8, 9, 10, 12, 13, 14, 15, 20, 21, 22, 23, 24, 25, 46, 60, 62, 63, 65, 66, 67, 68, 71] I) f1 (by decide)) f2 (by decide)
          have gA := Fr_cons (Fr_cons (Fr_refl [0, 2, 3, 4, 10, 11, 12, 13, 14, 15, 16, 17, 18, 19, 38, 50, 52, 54] A) g1 (by decide)) g2 (by decide)
          have hwl := hw.1 2 (by decide)
          rw [upl_s, upl_s] at hwl
          have hL : LK 2 (dD R.1) R.2.1 R.2.2.1 R.2.2.2.1 I2 A2 := by
            refine ⟨(f2 46 (by decide)).trans e40, fun j hj => by rw [g2 38 (by decide)]; exact esl j hj, (fI 47 (by decide)).trans (hK.2.2.1.trans ?_), ?_⟩
            · unfold stO
              rw [if_pos (Or.inl (by decide)), if_pos (Or.inl (by decide))]
            · exact (fI 48 (by decide)).trans (hK.2.2.2.trans ((WL_nx hWl).trans (WL_nx hwl).symm))
          refine ⟨_, R.1, I2, A2, rfl, e60, fun _ => vp_0 _ _, INV_w h' oR ⟨rgK_lo hk1.1 (Lo_fr f2 (by decide)), by rw [g2 0 (by decide)]; exact hk1.2.1⟩ ⟨hm2.1, hm2.2.1⟩ fI gA (by decide) (by decide) (⟨hw, hN4, LK_upl hLK hW.1 (upl_WL hw.1) (fun m hm e hc => hbB m hm e oR hc) hL fI gA (by decide) (by decide), KNW_fr hKN gA (by decide)⟩ : ON (k + 1) R.1 I2 A2 (upl F 2 R.2.1) R.2.2.1 (upl c 2 R.2.2.2.1) N)⟩
        · rw [← hR]
          intro q
          rw [oR] at q
          exact Bool.noConfusion q
      · rw [← hR]
        intro oR I1 A1 f1 g1 hk1
        refine Or.inr ⟨9, n, u + 6, I1, A1, _, mk, sn, X, rfl, hn.1, by decide, by decide, ?_⟩
        refine ⟨1, n + 1, u + 6, I1, A1, _, B, mk, sn, _, rfl, by decide, by omega, by omega, by omega, ?_⟩
        refine k_146 (mD_up of m1 m2 f1 g1) of (l := 2) (cn := c 2) (f := F 2) (bc := bc) (N := N 2) (by decide) (by decide) hWl hNl ?_ ?_
        · rw [← hR]
          intro q
          rw [oR] at q
          exact Bool.noConfusion q
        · rw [← hR]
          intro _ I2 A2 f2 g2 hm2 e60
          obtain ⟨D1, w, F', bc', c', hw, hro⟩ := w2 oR
          exact ⟨nI 0, R.1, I2, A2, rfl, e60, fun q => absurd q (by decide), INV_off hmk oR hk1 hm2 (Lo_fr f2 (by decide)) (Lo_fr g2 (by decide)) ⟨by rw [g2 53 (by decide), g1 53 (by decide)]; exact h53.1, by rw [g2 53 (by decide), g1 53 (by decide)]; exact h53.2⟩ hro hw hN4⟩
    | 3, _, _, hWl, hK, hNl, hR, w1, hbB =>
      refine k_93_3 hkD of (cn := c 3) (f := F 3) (bc := bc) (N := N 3) hmk hn hu hWl hNl hK.1 hK.2.1 ?_ ?_
      · rw [← hR]
        intro oR I1 A1 f1 g1 hk1 e40 esl
        refine Or.inl ⟨_, n, u, I1, A1, _, mk, sn, X, rfl, ?_⟩
        refine ⟨0, n, u, I1, A1, _, _, mk, sn, X, rfl, by decide, by omega, by omega, by omega, ?_⟩
        refine k_146 (mD_of of m1 m2 f1 g1 (by decide) (by decide)) of (l := 3) (cn := c 3) (f := F 3) (bc := bc) (N := N 3) (by decide) (by decide) hWl hNl ?_ ?_
        · rw [← hR]
          intro _ I2 A2 f2 g2 hm2 e60
          have hw := w1 oR
          have fI := Fr_cons (Fr_cons (Fr_refl [2, 3, 4, 5, 6, 7, 8, 9, 10, 12, 13, 14, 15, 20, 21, 22, 23, 24, 25, 49, 60, 62, 63, 65, 66, 67, 68, 71] I) f1 (by decide)) f2 (by decide)
          have gA := Fr_cons (Fr_cons (Fr_refl [0, 2, 3, 4, 10, 11, 12, 13, 14, 15, 16, 17, 18, 19, 42, 50, 52, 54] A) g1 (by decide)) g2 (by decide)
          have hwl := hw.1 3 (by decide)
          rw [upl_s, upl_s] at hwl
          have hL : LK 3 (dD R.1) R.2.1 R.2.2.1 R.2.2.2.1 I2 A2 := by
            refine ⟨(f2 49 (by decide)).trans e40, fun j hj => by rw [g2 42 (by decide)]; exact esl j hj, (fI 50 (by decide)).trans (hK.2.2.1.trans ?_), ?_⟩
            · unfold stO
              rw [if_pos (Or.inl (by decide)), if_pos (Or.inl (by decide))]
            · exact (fI 51 (by decide)).trans (hK.2.2.2.trans ((WL_nx hWl).trans (WL_nx hwl).symm))
          refine ⟨_, R.1, I2, A2, rfl, e60, fun _ => vp_0 _ _, INV_w h' oR ⟨rgK_lo hk1.1 (Lo_fr f2 (by decide)), by rw [g2 0 (by decide)]; exact hk1.2.1⟩ ⟨hm2.1, hm2.2.1⟩ fI gA (by decide) (by decide) (⟨hw, hN4, LK_upl hLK hW.1 (upl_WL hw.1) (fun m hm e hc => hbB m hm e oR hc) hL fI gA (by decide) (by decide), KNW_fr hKN gA (by decide)⟩ : ON (k + 1) R.1 I2 A2 (upl F 3 R.2.1) R.2.2.1 (upl c 3 R.2.2.2.1) N)⟩
        · rw [← hR]
          intro q
          rw [oR] at q
          exact Bool.noConfusion q
      · rw [← hR]
        intro oR I1 A1 f1 g1 hk1
        refine Or.inr ⟨9, n, u + 6, I1, A1, _, mk, sn, X, rfl, hn.1, by decide, by decide, ?_⟩
        refine ⟨1, n + 1, u + 6, I1, A1, _, B, mk, sn, _, rfl, by decide, by omega, by omega, by omega, ?_⟩
        refine k_146 (mD_up of m1 m2 f1 g1) of (l := 3) (cn := c 3) (f := F 3) (bc := bc) (N := N 3) (by decide) (by decide) hWl hNl ?_ ?_
        · rw [← hR]
          intro q
          rw [oR] at q
          exact Bool.noConfusion q
        · rw [← hR]
          intro _ I2 A2 f2 g2 hm2 e60
          obtain ⟨D1, w, F', bc', c', hw, hro⟩ := w2 oR
          exact ⟨nI 0, R.1, I2, A2, rfl, e60, fun q => absurd q (by decide), INV_off hmk oR hk1 hm2 (Lo_fr f2 (by decide)) (Lo_fr g2 (by decide)) ⟨by rw [g2 53 (by decide), g1 53 (by decide)]; exact h53.1, by rw [g2 53 (by decide), g1 53 (by decide)]; exact h53.2⟩ hro hw hN4⟩
end S98
