/-! fetch keeps what holds. -/
theorem lt1_of {x : Int32} (h : x < 0) : x < nI 1 := Int32.lt_of_lt_of_le h (by decide)
theorem nle8 {x : Int32} (h : nI 9 ≤ x) : ¬ x ≤ nI 8 := fun q => absurd (Int32.le_trans h q) (by decide)
section S95
variable {n u : Nat} {I : Nat → Int32} {A : Nat → Nat → Int32} {J : Int64} {B : Nat → Int64} {mk sn L : Nat} {xs : Nat → Int32} {X : Nat → mC} {D : Nat → Nat} {S : DS} {k : Nat}
set_option maxRecDepth 100000 in
set_option maxHeartbeats 4000000 in
theorem op_fetch (h : INV k S I A mk sn) (hk : k ≤ 1000) (hn : 77 ≤ n ∧ n < 10000) (hu : u + 6 < 1000000) (a o b : Int32) : mq 75 0 [some (.ref 1), some (.int a), some (.int o), some (.int b), some (.ref 76), none] [] (hS n u I A J B mk sn L xs X) (twx 137 [some (.ref 67), some (.int a), some (.int o), some (.int b), none, none, none, none] (k + 1) n u L xs) := by
  have h' := h
  obtain ⟨⟨k1, k2⟩, ⟨m1, m2⟩, _, _, _, _, _, hon, hoff⟩ := h
  refine w_75 ?_
  by_cases ho : dO S = true
  · have h0 : I 0 = nI 0 := by
      rw [k1.1, ho]
      rfl
    have h61 : I 61 = nI 1 := by
      rw [m1.1, ho]
      rfl
    refine k_76x h0 hn hu (Or.inr ⟨9, n, u + 6, I, A, J, mk, sn, X, rfl, hn.1, by decide, by decide, ?_⟩)
    refine ⟨1, n + 1, u + 6, I, A, J, B, mk, sn, _, rfl, by decide, by omega, by omega, by omega, ?_⟩
    exact k_137x h61 ⟨nI 0, S, va_up I 60 (nI 1), A, rfl, rfl, fun q => absurd q (by decide), INV_60 h' _⟩
  · have of := ne_true ho
    have h0 : I 0 = nI 1 := by
      rw [k1.1, of]
      rfl
    have h61 : I 61 = nI 0 := by
      rw [m1.1, of]
      rfl
    obtain ⟨F, bc, c, N, hW, hNk, hLK, _⟩ := hon of
    have mb : ((a < 0 ∨ nI 4 ≤ a) ∨ (b < nI 1 ∨ ¬ b ≤ nI 8)) → twx 137 [some (.ref 67), some (.int a), some (.int o), some (.int b), none, none, none, none] (k + 1) n u L xs (.inl (some (.int (nI (cd75 10)))), hS (n + 1) (u + 6) I A J B mk sn L xs (va_up X n (.inr (10, [])))) := fun hx => by
      refine ⟨2, n + 1, u + 6, I, A, J, B, mk, sn, _, rfl, by decide, by omega, by omega, by omega, ?_⟩
      exact k_137b h61 hx ⟨nI 0, S, va_up I 60 (nI 2), A, rfl, rfl, fun q => absurd q (by decide), INV_60 h' _⟩
    have badl : (a < 0 ∨ nI 4 ≤ a) → mq 76 0 [some (.ref 1), some (.int a), some (.int o), some (.int b), none, none, none] [] (hS n u I A J B mk sn L xs X) (wQ cd75 B L xs (twx 137 [some (.ref 67), some (.int a), some (.int o), some (.int b), none, none, none, none] (k + 1) n u L xs)) := fun hx => k_76b h0 hx hn hu (Or.inr ⟨10, n, u + 6, I, A, J, mk, sn, X, rfl, hn.1, by decide, by decide, mb (Or.inl hx)⟩)
    rcases pk_ix a (n := 4) (by decide) with h1 | h1 | ⟨l, hl, el⟩
    · exact badl (Or.inl h1)
    · exact badl (Or.inr h1)
    have badn : (b < nI 1 ∨ ¬ b ≤ nI 8) → mq 76 0 [some (.ref 1), some (.int a), some (.int o), some (.int b), none, none, none] [] (hS n u I A J B mk sn L xs X) (wQ cd75 B L xs (twx 137 [some (.ref 67), some (.int a), some (.int o), some (.int b), none, none, none, none] (k + 1) n u L xs)) := fun hx => by
      have hmb := mb (Or.inr hx)
      subst el
      exact k_76c h0 hl hx hn hu (Or.inr ⟨10, n, u + 6, I, A, J, mk, sn, X, rfl, hn.1, by decide, by decide, hmb⟩)
    rcases pk_ix b (n := 9) (by decide) with h1 | h1 | ⟨y, hy, ey⟩
    · exact badn (Or.inl (lt1_of h1))
    · exact badn (Or.inr (nle8 h1))
    by_cases hy0 : y = 0
    · refine badn (Or.inl ?_)
      rw [ey, hy0]
      decide
    subst el ey
    have hWl := hW.1 l hl
    have hK := hLK l hl
    have hNl := hNk l hl
    by_cases hr : o < stO (dD S) (F l) l (c l) ∨ ¬ o ≤ nxO (dD S) (F l) bc (c l)
    · have hm3 : twx 137 [some (.ref 67), some (.int (nI l)), some (.int o), some (.int (nI y)), none, none, none, none] (k + 1) n u L xs (.inl (some (.int (nI (cd75 12)))), hS (n + 1) (u + 6) I A J B mk sn L xs (va_up X n (.inr (12, [])))) := by
        refine ⟨3, n + 1, u + 6, I, A, J, B, mk, sn, _, rfl, by decide, by omega, by omega, by omega, ?_⟩
        exact k_137o (D := dD S) (f := F l) (bc := bc) m2 hl hWl.1 hWl.2.1 (by omega) (by omega) h61 hr (fun I2 A2 f2 g2 e2 => ⟨nI 0, S, I2, A2, rfl, e2, fun q => absurd q (by decide), INV_r h' (Fr_cons (Fr_refl _ I) f2 (by decide)) (Fr_cons (Fr_refl _ A) g2 (by decide))⟩)
      match l, hl, hWl, hK, hNl, hr, hm3 with
      | 0, _, hWl, hK, hNl, hr, hm3 => exact k_76o_0 (by omega) (by omega) h0 hK.2.2.1 hK.2.2.2 hr hn hu (Or.inr ⟨12, n, u + 6, I, A, J, mk, sn, X, rfl, hn.1, by decide, by decide, hm3⟩)
      | 1, _, hWl, hK, hNl, hr, hm3 => exact k_76o_1 (by omega) (by omega) h0 hK.2.2.1 hK.2.2.2 hr hn hu (Or.inr ⟨12, n, u + 6, I, A, J, mk, sn, X, rfl, hn.1, by decide, by decide, hm3⟩)
      | 2, _, hWl, hK, hNl, hr, hm3 => exact k_76o_2 (by omega) (by omega) h0 hK.2.2.1 hK.2.2.2 hr hn hu (Or.inr ⟨12, n, u + 6, I, A, J, mk, sn, X, rfl, hn.1, by decide, by decide, hm3⟩)
      | 3, _, hWl, hK, hNl, hr, hm3 => exact k_76o_3 (by omega) (by omega) h0 hK.2.2.1 hK.2.2.2 hr hn hu (Or.inr ⟨12, n, u + 6, I, A, J, mk, sn, X, rfl, hn.1, by decide, by decide, hm3⟩)
    · have hr1 : ¬ o < stO (dD S) (F l) l (c l) := fun q => hr (Or.inl q)
      have hr2 : o ≤ nxO (dD S) (F l) bc (c l) := Decidable.byContradiction (fun q => hr (Or.inr q))
      match l, hl, hWl, hK, hNl, hr1, hr2 with
      | 0, _, hWl, hK, hNl, hr1, hr2 =>
        refine k_76_0 (cn := c 0) (f := F 0) (bc := bc) k2 (SG_le hWl.1) (fun k hk => ⟨(hWl.1.1 k hk).1, hWl.2.1 k hk⟩) (by omega) (by omega) h0 hK.1 hK.2.2.1 hK.2.2.2 hr1 hr2 hK.2.1 (fun I1 A1 f1 g1 hF e11 => Or.inl ⟨_, n, u, I1, A1, J, mk, sn, X, rfl, ?_⟩)
        refine ⟨0, n, u, I1, A1, J, _, mk, sn, X, rfl, by decide, by omega, by omega, by omega, ?_⟩
        refine k_137 (l := 0) (f := F 0) (bc := bc) (D := dD S) (by rw [g1 50 (by decide)]; exact m2) (by decide) hWl.1 hWl.2.1 (by omega) (by omega) ((f1 61 (by decide)).trans h61) hr1 hr2 (fun I2 A2 f2 g2 e2 hM e70 => ⟨_, S, I2, A2, rfl, e2, fun _ => vp_0 _ _, INV_f h' of (Fr_cons (Fr_cons (Fr_refl _ I) f1 (by decide)) f2 (by decide)) (Fr_cons (Fr_cons (Fr_refl _ A) g1 (by decide)) g2 (by decide)) (Nat.le_trans (fG_len _ _ _ _ _ _ _ _ _ _ (Nat.zero_le _)) (show y ≤ 8 by omega)) (FC_fr hF f2 g2 (by decide) (by decide) (by decide) (by decide) (by decide) (by decide)) hM ?_⟩)
        exact ((f2 11 (by decide)).trans e11).trans e70.symm
      | 1, _, hWl, hK, hNl, hr1, hr2 =>
        refine k_76_1 (cn := c 1) (f := F 1) (bc := bc) k2 (SG_le hWl.1) (fun k hk => ⟨(hWl.1.1 k hk).1, hWl.2.1 k hk⟩) (by omega) (by omega) h0 hK.1 hK.2.2.1 hK.2.2.2 hr1 hr2 hK.2.1 (fun I1 A1 f1 g1 hF e11 => Or.inl ⟨_, n, u, I1, A1, J, mk, sn, X, rfl, ?_⟩)
        refine ⟨0, n, u, I1, A1, J, _, mk, sn, X, rfl, by decide, by omega, by omega, by omega, ?_⟩
        refine k_137 (l := 1) (f := F 1) (bc := bc) (D := dD S) (by rw [g1 50 (by decide)]; exact m2) (by decide) hWl.1 hWl.2.1 (by omega) (by omega) ((f1 61 (by decide)).trans h61) hr1 hr2 (fun I2 A2 f2 g2 e2 hM e70 => ⟨_, S, I2, A2, rfl, e2, fun _ => vp_0 _ _, INV_f h' of (Fr_cons (Fr_cons (Fr_refl _ I) f1 (by decide)) f2 (by decide)) (Fr_cons (Fr_cons (Fr_refl _ A) g1 (by decide)) g2 (by decide)) (Nat.le_trans (fG_len _ _ _ _ _ _ _ _ _ _ (Nat.zero_le _)) (show y ≤ 8 by omega)) (FC_fr hF f2 g2 (by decide) (by decide) (by decide) (by decide) (by decide) (by decide)) hM ?_⟩)
        exact ((f2 11 (by decide)).trans e11).trans e70.symm
      | 2, _, hWl, hK, hNl, hr1, hr2 =>
        refine k_76_2 (cn := c 2) (f := F 2) (bc := bc) k2 (SG_le hWl.1) (fun k hk => ⟨(hWl.1.1 k hk).1, hWl.2.1 k hk⟩) (by omega) (by omega) h0 hK.1 hK.2.2.1 hK.2.2.2 hr1 hr2 hK.2.1 (fun I1 A1 f1 g1 hF e11 => Or.inl ⟨_, n, u, I1, A1, J, mk, sn, X, rfl, ?_⟩)
        refine ⟨0, n, u, I1, A1, J, _, mk, sn, X, rfl, by decide, by omega, by omega, by omega, ?_⟩
        refine k_137 (l := 2) (f := F 2) (bc := bc) (D := dD S) (by rw [g1 50 (by decide)]; exact m2) (by decide) hWl.1 hWl.2.1 (by omega) (by omega) ((f1 61 (by decide)).trans h61) hr1 hr2 (fun I2 A2 f2 g2 e2 hM e70 => ⟨_, S, I2, A2, rfl, e2, fun _ => vp_0 _ _, INV_f h' of (Fr_cons (Fr_cons (Fr_refl _ I) f1 (by decide)) f2 (by decide)) (Fr_cons (Fr_cons (Fr_refl _ A) g1 (by decide)) g2 (by decide)) (Nat.le_trans (fG_len _ _ _ _ _ _ _ _ _ _ (Nat.zero_le _)) (show y ≤ 8 by omega)) (FC_fr hF f2 g2 (by decide) (by decide) (by decide) (by decide) (by decide) (by decide)) hM ?_⟩)
        exact ((f2 11 (by decide)).trans e11).trans e70.symm
      | 3, _, hWl, hK, hNl, hr1, hr2 =>
        refine k_76_3 (cn := c 3) (f := F 3) (bc := bc) k2 (SG_le hWl.1) (fun k hk => ⟨(hWl.1.1 k hk).1, hWl.2.1 k hk⟩) (by omega) (by omega) h0 hK.1 hK.2.2.1 hK.2.2.2 hr1 hr2 hK.2.1 (fun I1 A1 f1 g1 hF e11 => Or.inl ⟨_, n, u, I1, A1, J, mk, sn, X, rfl, ?_⟩)
        refine ⟨0, n, u, I1, A1, J, _, mk, sn, X, rfl, by decide, by omega, by omega, by omega, ?_⟩
        refine k_137 (l := 3) (f := F 3) (bc := bc) (D := dD S) (by rw [g1 50 (by decide)]; exact m2) (by decide) hWl.1 hWl.2.1 (by omega) (by omega) ((f1 61 (by decide)).trans h61) hr1 hr2 (fun I2 A2 f2 g2 e2 hM e70 => ⟨_, S, I2, A2, rfl, e2, fun _ => vp_0 _ _, INV_f h' of (Fr_cons (Fr_cons (Fr_refl _ I) f1 (by decide)) f2 (by decide)) (Fr_cons (Fr_cons (Fr_refl _ A) g1 (by decide)) g2 (by decide)) (Nat.le_trans (fG_len _ _ _ _ _ _ _ _ _ _ (Nat.zero_le _)) (show y ≤ 8 by omega)) (FC_fr hF f2 g2 (by decide) (by decide) (by decide) (by decide) (by decide) (by decide)) hM ?_⟩)
        exact ((f2 11 (by decide)).trans e11).trans e70.symm
end S95
