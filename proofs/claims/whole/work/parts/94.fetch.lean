/-! fetch and since keep what holds. -/
theorem INV_f {k : Nat} {S : DS} {I I' : Nat → Int32} {A A' : Nat → Nat → Int32} {mk sn : Nat} {fl : List R5} (h : INV k S I A mk sn) (of : dO S = false) (f : Fr [4, 5, 6, 7, 8, 9, 10, 11, 16, 20, 21, 22, 60, 65, 66, 67, 69, 70, 71] I I') (g : Fr [5, 6, 7, 8, 9, 10, 11, 12, 13, 14, 52, 57] A A') (h8 : fl.length ≤ 8) (hF : FC I' A' fl) (hM : FM I' A' fl) (h11 : I' 11 = I' 70) : INV (k + 1) S I' A' mk sn := by
  obtain ⟨⟨k1, k2⟩, ⟨m1, m2⟩, hm, ⟨l, l4, lg, lB, l64, lT⟩, _, _, h53, hon, hoff⟩ := h
  refine ⟨⟨rgK_fr k1 f (by decide), by rw [g 0 (by decide)]; exact k2⟩, ⟨rgM_fr m1 f (by decide), by rw [g 50 (by decide)]; exact m2⟩, hm, ⟨l, l4, lg, ?_, (f 64 (by decide)).trans l64, fun x hx => by rw [g 51 (by decide)]; exact lT x hx⟩, ⟨fl, h8, hF, hM⟩, h11, ⟨by rw [g 53 (by decide)]; exact h53.1, by rw [g 53 (by decide)]; exact h53.2⟩, fun q => ?_, fun q => by rw [of] at q; exact Bool.noConfusion q⟩
  · rcases hm with ⟨e, _⟩ | ⟨e, _⟩
    · subst e
      have hB : BC 2 I A l := lB
      refine (⟨(f 28 (by decide)).trans hB.1, fun x hx => ?_⟩ : BC 2 I' A' l)
      rw [g _ (by decide), g _ (by decide), g _ (by decide), g _ (by decide), g _ (by decide)]
      exact hB.2 x hx
    · subst e
      have hB : BC 3 I A l := lB
      refine (⟨(f 31 (by decide)).trans hB.1, fun x hx => ?_⟩ : BC 3 I' A' l)
      rw [g _ (by decide), g _ (by decide), g _ (by decide), g _ (by decide), g _ (by decide)]
      exact hB.2 x hx
  · obtain ⟨F, bc, c, N, ho⟩ := hon q
    exact ⟨F, bc, c, N, ON_fr ho (Nat.le_succ k) f g (fun r h1 h2 => by simp; omega) ⟨fun r h1 h2 => by simp; omega, by decide, by decide, by decide⟩⟩
theorem sR_mem {D : Nat → Nat} {b q : Nat} {t v : Int32} : ∀ z k, sR D b q t z k = some v → ∃ i, i < k + z ∧ v = oR D b q i
  | 0, _, h => by exact absurd h (by simp [sR])
  | z + 1, k, h => by
    have h' : (if tR D q k < t then sR D b q t z (k + 1) else some (oR D b q k)) = some v := h
    split at h'
    · obtain ⟨i, hi, e⟩ := sR_mem z (k + 1) h'
      exact ⟨i, by omega, e⟩
    · exact ⟨k, by omega, (Option.some.inj h').symm⟩
theorem sB_mem {D : Nat → Nat} {s : Nat} {t v : Int32} : ∀ z j, sB D s t z j = some v → ∃ r, r ∈ sRs D s (j + z) ∧ v = r.1
  | 0, _, h => by exact absurd h (by simp [sB])
  | z + 1, j, h => by
    cases e : sR D (bB D s) (sb D s j) t (bN D (sb D s j)) 0 with
    | some w =>
      have h1 : sB D s t (z + 1) j = some w := by
        unfold sB
        rw [e]
      rw [h1] at h
      have hv := Option.some.inj h
      obtain ⟨i, hi, ei⟩ := sR_mem _ _ e
      exact ⟨r5 D (bB D s) (sb D s j) i, fl_in (by omega) (mp_in _ (by omega)), by rw [← hv, ei]; rfl⟩
    | none =>
      have h1 : sB D s t (z + 1) j = sB D s t z (j + 1) := by
        conv => lhs; unfold sB
        rw [e]
      rw [h1] at h
      obtain ⟨r, hr, er⟩ := sB_mem z (j + 1) h
      rw [show j + 1 + z = j + (z + 1) by omega] at hr
      exact ⟨r, hr, er⟩
theorem WL_pos {D : Nat → Nat} {l n N : Nat} {f bc : Nat → Nat} {t : Int32} (h : WL D l f bc n N) (hN : N < 2 ^ 31) : ∀ k, k < n → ∀ v, sB D (f k) t (bc (f k)) 0 = some v → ¬ v < 0 := fun k hk v hv => by
  obtain ⟨r, hr, e⟩ := sB_mem _ _ hv
  rw [Nat.zero_add] at hr
  obtain ⟨o, eo, h1, h2⟩ := Asc_mem (h.2.2.2.1 k hk) hr
  rw [e, eo]
  refine nI_pos ?_
  split at h2
  · rename_i h3
    have h4 := (h.1.1 (k + 1) h3).2.2
    have h2' : o < bB D (f (k + 1)) := h2
    omega
  · omega
section S94
variable {n u : Nat} {I : Nat → Int32} {A : Nat → Nat → Int32} {J : Int64} {B : Nat → Int64} {mk sn L : Nat} {xs : Nat → Int32} {X : Nat → mC} {D : Nat → Nat} {S : DS} {k : Nat}
set_option maxRecDepth 100000 in
set_option maxHeartbeats 4000000 in
theorem op_since (h : INV k S I A mk sn) (hk : k ≤ 1000) (hn : 77 ≤ n ∧ n < 10000) (hu : u + 6 < 1000000) (a t : Int32) : mq 84 0 [some (.ref 1), some (.int a), some (.int t), some (.ref 76), none] [] (hS n u I A J B mk sn L xs X) (twx 142 [some (.ref 67), some (.int a), some (.int t), none, none, none] (k + 1) n u L xs) := by
  have h' := h
  obtain ⟨⟨k1, k2⟩, ⟨m1, m2⟩, _, _, _, _, _, hon, hoff⟩ := h
  refine w_84 ?_
  by_cases ho : dO S = true
  · have h0 : I 0 = nI 0 := by
      rw [k1.1, ho]
      rfl
    have h61 : I 61 = nI 1 := by
      rw [m1.1, ho]
      rfl
    refine k_85x h0 hn hu (Or.inr ⟨9, n, u + 6, I, A, J, mk, sn, X, rfl, hn.1, by decide, by decide, ?_⟩)
    refine ⟨1, n + 1, u + 6, I, A, J, B, mk, sn, _, rfl, by decide, by omega, by omega, by omega, ?_⟩
    exact k_142x h61 ⟨nI 0, S, va_up I 60 (nI 1), A, rfl, rfl, fun q => absurd q (by decide), INV_60 h' _⟩
  · have of := ne_true ho
    have h0 : I 0 = nI 1 := by
      rw [k1.1, of]
      rfl
    have h61 : I 61 = nI 0 := by
      rw [m1.1, of]
      rfl
    obtain ⟨F, bc, c, N, hW, hNk, hLK, _⟩ := hon of
    have bad : (a < 0 ∨ nI 4 ≤ a) → mq 85 0 [some (.ref 1), some (.int a), some (.int t), none, none] [] (hS n u I A J B mk sn L xs X) (wQ cd84 B L xs (twx 142 [some (.ref 67), some (.int a), some (.int t), none, none, none] (k + 1) n u L xs)) := fun hx => by
      refine k_85b h0 hx hn hu (Or.inr ⟨10, n, u + 6, I, A, J, mk, sn, X, rfl, hn.1, by decide, by decide, ?_⟩)
      refine ⟨2, n + 1, u + 6, I, A, J, B, mk, sn, _, rfl, by decide, by omega, by omega, by omega, ?_⟩
      exact k_142b h61 hx ⟨nI 0, S, va_up I 60 (nI 2), A, rfl, rfl, fun q => absurd q (by decide), INV_60 h' _⟩
    rcases pk_ix a (n := 4) (by decide) with h1 | h1 | ⟨l, hl, el⟩
    · exact bad (Or.inl h1)
    · exact bad (Or.inr h1)
    subst el
    have hWl := hW.1 l hl
    have hK := hLK l hl
    have hNl := hNk l hl
    match l, hl, hWl, hK, hNl with
    | 0, _, hWl, hK, hNl =>
      refine k_85_0 (cn := c 0) (f := F 0) (bc := bc) k2 (SG_le hWl.1) (fun k hk => ⟨(hWl.1.1 k hk).1, hWl.2.1 k hk⟩) (WL_pos hWl (by omega)) h0 hK.1 hK.2.1 (fun I1 A1 f1 g1 => Or.inl ⟨_, n, u, I1, A1, J, mk, sn, X, rfl, ?_⟩)
      refine ⟨0, n, u, I1, A1, J, _, mk, sn, X, rfl, by decide, by omega, by omega, by omega, ?_⟩
      refine k_142 (l := 0) (f := F 0) (bc := bc) (D := dD S) (by rw [g1 50 (by decide)]; exact m2) (by decide) hWl.1 hWl.2.1 ((f1 61 (by decide)).trans h61) (fun I2 A2 f2 g2 e2 => ⟨_, S, I2, A2, rfl, e2, fun _ => vp_0 _ _, INV_r h' (Fr_cons (Fr_cons (Fr_refl _ I) f1 (by decide)) f2 (by decide)) (Fr_cons (Fr_cons (Fr_refl _ A) g1 (by decide)) g2 (by decide))⟩)
    | 1, _, hWl, hK, hNl =>
      refine k_85_1 (cn := c 1) (f := F 1) (bc := bc) k2 (SG_le hWl.1) (fun k hk => ⟨(hWl.1.1 k hk).1, hWl.2.1 k hk⟩) (WL_pos hWl (by omega)) h0 hK.1 hK.2.1 (fun I1 A1 f1 g1 => Or.inl ⟨_, n, u, I1, A1, J, mk, sn, X, rfl, ?_⟩)
      refine ⟨0, n, u, I1, A1, J, _, mk, sn, X, rfl, by decide, by omega, by omega, by omega, ?_⟩
      refine k_142 (l := 1) (f := F 1) (bc := bc) (D := dD S) (by rw [g1 50 (by decide)]; exact m2) (by decide) hWl.1 hWl.2.1 ((f1 61 (by decide)).trans h61) (fun I2 A2 f2 g2 e2 => ⟨_, S, I2, A2, rfl, e2, fun _ => vp_0 _ _, INV_r h' (Fr_cons (Fr_cons (Fr_refl _ I) f1 (by decide)) f2 (by decide)) (Fr_cons (Fr_cons (Fr_refl _ A) g1 (by decide)) g2 (by decide))⟩)
    | 2, _, hWl, hK, hNl =>
      refine k_85_2 (cn := c 2) (f := F 2) (bc := bc) k2 (SG_le hWl.1) (fun k hk => ⟨(hWl.1.1 k hk).1, hWl.2.1 k hk⟩) (WL_pos hWl (by omega)) h0 hK.1 hK.2.1 (fun I1 A1 f1 g1 => Or.inl ⟨_, n, u, I1, A1, J, mk, sn, X, rfl, ?_⟩)
      refine ⟨0, n, u, I1, A1, J, _, mk, sn, X, rfl, by decide, by omega, by omega, by omega, ?_⟩
      refine k_142 (l := 2) (f := F 2) (bc := bc) (D := dD S) (by rw [g1 50 (by decide)]; exact m2) (by decide) hWl.1 hWl.2.1 ((f1 61 (by decide)).trans h61) (fun I2 A2 f2 g2 e2 => ⟨_, S, I2, A2, rfl, e2, fun _ => vp_0 _ _, INV_r h' (Fr_cons (Fr_cons (Fr_refl _ I) f1 (by decide)) f2 (by decide)) (Fr_cons (Fr_cons (Fr_refl _ A) g1 (by decide)) g2 (by decide))⟩)
    | 3, _, hWl, hK, hNl =>
      refine k_85_3 (cn := c 3) (f := F 3) (bc := bc) k2 (SG_le hWl.1) (fun k hk => ⟨(hWl.1.1 k hk).1, hWl.2.1 k hk⟩) (WL_pos hWl (by omega)) h0 hK.1 hK.2.1 (fun I1 A1 f1 g1 => Or.inl ⟨_, n, u, I1, A1, J, mk, sn, X, rfl, ?_⟩)
      refine ⟨0, n, u, I1, A1, J, _, mk, sn, X, rfl, by decide, by omega, by omega, by omega, ?_⟩
      refine k_142 (l := 3) (f := F 3) (bc := bc) (D := dD S) (by rw [g1 50 (by decide)]; exact m2) (by decide) hWl.1 hWl.2.1 ((f1 61 (by decide)).trans h61) (fun I2 A2 f2 g2 e2 => ⟨_, S, I2, A2, rfl, e2, fun _ => vp_0 _ _, INV_r h' (Fr_cons (Fr_cons (Fr_refl _ I) f1 (by decide)) f2 (by decide)) (Fr_cons (Fr_cons (Fr_refl _ A) g1 (by decide)) g2 (by decide))⟩)
end S94
