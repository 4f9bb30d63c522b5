/-! log keeps what holds. -/
section S92
variable {n u : Nat} {I : Nat → Int32} {A : Nat → Nat → Int32} {J : Int64} {B : Nat → Int64} {mk sn L : Nat} {xs : Nat → Int32} {X : Nat → mC} {D : Nat → Nat} {S : DS} {k : Nat}
set_option maxRecDepth 100000 in
set_option maxHeartbeats 4000000 in
theorem op_log (h : INV k S I A mk sn) (a w : Int32) : mq 47 0 [some (.ref 1), some (.int a), some (.int w), none] [] (hS n u I A J B mk sn L xs X) (two 156 [some (.ref 67), some (.int a), some (.int w), none, none, none] (k + 1) n u J B L xs X) := by
  have h' := h
  obtain ⟨⟨k1, k2⟩, ⟨m1, m2⟩, hm, _, _, _, _, hon, hoff⟩ := h
  have bad : (a < 0 ∨ nI 4 ≤ a) → mq 47 0 [some (.ref 1), some (.int a), some (.int w), none] [] (hS n u I A J B mk sn L xs X) (two 156 [some (.ref 67), some (.int a), some (.int w), none, none, none] (k + 1) n u J B L xs X) := fun hx => by
    refine k_47b hx ⟨-1, I, A, mk, sn, rfl, ?_⟩
    exact k_156b hx ⟨S, _, A, rfl, INV_60 h' _⟩
  rcases pk_ix a (n := 4) (by decide) with h1 | h1 | ⟨l, hl, el⟩
  · exact bad (Or.inl h1)
  · exact bad (Or.inr h1)
  subst el
  by_cases ho : dO S = true
  · have h61 : I 61 = nI 1 := by
      rw [m1.1, ho]
      rfl
    obtain ⟨o1, o2, _⟩ := hoff ho
    have o3 := o1.2.2.2 l hl
    match l, hl, o3 with
    | 0, _, o3 =>
      refine k_47_0 (cn := 0) (f := fun _ => 0) (bc := fun _ => 0) k2 (by decide) (fun k hk => absurd hk (Nat.not_lt_zero k)) o3.1 (fun j hj => absurd hj (Nat.not_lt_zero j)) o3.2.1 o3.2.2.1 (fun I1 A1 f1 g1 => ?_)
      refine ⟨_, I1, A1, mk, sn, rfl, ?_⟩
      refine k_156f (l := 0) (f := fun _ => 0) (bc := fun _ => 0) (D := dD S) (by decide) ((f1 61 (by decide)).trans h61) ⟨S, _, A1, rfl, INV_r h' (Fr_u (Fr_cons (Fr_refl _ I) f1 (by decide)) (by decide)) (Fr_cons (Fr_refl _ A) g1 (by decide))⟩
    | 1, _, o3 =>
      refine k_47_1 (cn := 0) (f := fun _ => 0) (bc := fun _ => 0) k2 (by decide) (fun k hk => absurd hk (Nat.not_lt_zero k)) o3.1 (fun j hj => absurd hj (Nat.not_lt_zero j)) o3.2.1 o3.2.2.1 (fun I1 A1 f1 g1 => ?_)
      refine ⟨_, I1, A1, mk, sn, rfl, ?_⟩
      refine k_156f (l := 1) (f := fun _ => 0) (bc := fun _ => 0) (D := dD S) (by decide) ((f1 61 (by decide)).trans h61) ⟨S, _, A1, rfl, INV_r h' (Fr_u (Fr_cons (Fr_refl _ I) f1 (by decide)) (by decide)) (Fr_cons (Fr_refl _ A) g1 (by decide))⟩
    | 2, _, o3 =>
      refine k_47_2 (cn := 0) (f := fun _ => 0) (bc := fun _ => 0) k2 (by decide) (fun k hk => absurd hk (Nat.not_lt_zero k)) o3.1 (fun j hj => absurd hj (Nat.not_lt_zero j)) o3.2.1 o3.2.2.1 (fun I1 A1 f1 g1 => ?_)
      refine ⟨_, I1, A1, mk, sn, rfl, ?_⟩
      refine k_156f (l := 2) (f := fun _ => 0) (bc := fun _ => 0) (D := dD S) (by decide) ((f1 61 (by decide)).trans h61) ⟨S, _, A1, rfl, INV_r h' (Fr_u (Fr_cons (Fr_refl _ I) f1 (by decide)) (by decide)) (Fr_cons (Fr_refl _ A) g1 (by decide))⟩
    | 3, _, o3 =>
      refine k_47_3 (cn := 0) (f := fun _ => 0) (bc := fun _ => 0) k2 (by decide) (fun k hk => absurd hk (Nat.not_lt_zero k)) o3.1 (fun j hj => absurd hj (Nat.not_lt_zero j)) o3.2.1 o3.2.2.1 (fun I1 A1 f1 g1 => ?_)
      refine ⟨_, I1, A1, mk, sn, rfl, ?_⟩
      refine k_156f (l := 3) (f := fun _ => 0) (bc := fun _ => 0) (D := dD S) (by decide) ((f1 61 (by decide)).trans h61) ⟨S, _, A1, rfl, INV_r h' (Fr_u (Fr_cons (Fr_refl _ I) f1 (by decide)) (by decide)) (Fr_cons (Fr_refl _ A) g1 (by decide))⟩
  · have of := ne_true ho
    have h61 : I 61 = nI 0 := by
      rw [m1.1, of]
      rfl
    obtain ⟨F, bc, c, N, hW, _, hLK, _⟩ := hon of
    have hWl := hW.1 l hl
    have hK := hLK l hl
    match l, hl, hWl, hK with
    | 0, _, hWl, hK =>
      refine k_47_0 (cn := c 0) (f := F 0) (bc := bc) k2 (SG_le hWl.1) (fun k hk => ⟨(hWl.1.1 k hk).1, hWl.2.1 k hk⟩) hK.1 hK.2.1 hK.2.2.1 hK.2.2.2 (fun I1 A1 f1 g1 => ?_)
      refine ⟨_, I1, A1, mk, sn, rfl, ?_⟩
      refine k_156 (l := 0) (f := F 0) (bc := bc) (D := dD S) (by rw [g1 50 (by decide)]; exact m2) (by decide) hWl.1 hWl.2.1 ((f1 61 (by decide)).trans h61) (fun I2 A2 f2 g2 _ => ⟨S, I2, A2, rfl, INV_r h' (Fr_cons (Fr_cons (Fr_refl _ I) f1 (by decide)) f2 (by decide)) (Fr_cons (Fr_cons (Fr_refl _ A) g1 (by decide)) g2 (by decide))⟩)
    | 1, _, hWl, hK =>
      refine k_47_1 (cn := c 1) (f := F 1) (bc := bc) k2 (SG_le hWl.1) (fun k hk => ⟨(hWl.1.1 k hk).1, hWl.2.1 k hk⟩) hK.1 hK.2.1 hK.2.2.1 hK.2.2.2 (fun I1 A1 f1 g1 => ?_)
      refine ⟨_, I1, A1, mk, sn, rfl, ?_⟩
      refine k_156 (l := 1) (f := F 1) (bc := bc) (D := dD S) (by rw [g1 50 (by decide)]; exact m2) (by decide) hWl.1 hWl.2.1 ((f1 61 (by decide)).trans h61) (fun I2 A2 f2 g2 _ => ⟨S, I2, A2, rfl, INV_r h' (Fr_cons (Fr_cons (Fr_refl _ I) f1 (by decide)) f2 (by decide)) (Fr_cons (Fr_cons (Fr_refl _ A) g1 (by decide)) g2 (by decide))⟩)
    | 2, _, hWl, hK =>
      refine k_47_2 (cn := c 2) (f := F 2) (bc := bc) k2 (SG_le hWl.1) (fun k hk => ⟨(hWl.1.1 k hk).1, hWl.2.1 k hk⟩) hK.1 hK.2.1 hK.2.2.1 hK.2.2.2 (fun I1 A1 f1 g1 => ?_)
      refine ⟨_, I1, A1, mk, sn, rfl, ?_⟩
      refine k_156 (l := 2) (f := F 2) (bc := bc) (D := dD S) (by rw [g1 50 (by decide)]; exact m2) (by decide) hWl.1 hWl.2.1 ((f1 61 (by decide)).trans h61) (fun I2 A2 f2 g2 _ => ⟨S, I2, A2, rfl, INV_r h' (Fr_cons (Fr_cons (Fr_refl _ I) f1 (by decide)) f2 (by decide)) (Fr_cons (Fr_cons (Fr_refl _ A) g1 (by decide)) g2 (by decide))⟩)
    | 3, _, hWl, hK =>
      refine k_47_3 (cn := c 3) (f := F 3) (bc := bc) k2 (SG_le hWl.1) (fun k hk => ⟨(hWl.1.1 k hk).1, hWl.2.1 k hk⟩) hK.1 hK.2.1 hK.2.2.1 hK.2.2.2 (fun I1 A1 f1 g1 => ?_)
      refine ⟨_, I1, A1, mk, sn, rfl, ?_⟩
      refine k_156 (l := 3) (f := F 3) (bc := bc) (D := dD S) (by rw [g1 50 (by decide)]; exact m2) (by decide) hWl.1 hWl.2.1 ((f1 61 (by decide)).trans h61) (fun I2 A2 f2 g2 _ => ⟨S, I2, A2, rfl, INV_r h' (Fr_cons (Fr_cons (Fr_refl _ I) f1 (by decide)) f2 (by decide)) (Fr_cons (Fr_cons (Fr_refl _ A) g1 (by decide)) g2 (by decide))⟩)
end S92
