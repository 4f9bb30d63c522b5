/-! Well-formed disks: a new segment. -/
def upl {α : Type} (F : Nat → α) (l : Nat) (x : α) : Nat → α := fun y => if y = l then x else F y
theorem upl_s {α : Type} (F : Nat → α) (l : Nat) (x : α) : upl F l x l = x := if_pos rfl
theorem upl_n {α : Type} {F : Nat → α} {l y : Nat} {x : α} (h : ¬ y = l) : upl F l x y = F y := if_neg h
theorem bc_ne {D : Nat → Nat} {s c : Nat} (h : WS D s c) (hc : 1 ≤ c) : ¬ sRs D s c = [] := fun e => by
  obtain ⟨d, hd⟩ : ∃ d, c = d + 1 := ⟨c - 1, by omega⟩
  subst hd
  rw [sRs_succ] at e
  have h1 := (List.append_eq_nil_iff.mp e).2
  have h2 := congrArg List.length h1
  rw [bRs_len] at h2
  have h3 := (WS_b h (show d < d + 1 by omega)).1
  rw [h2] at h3
  exact absurd h3 (by decide)
/-- a new segment's head is written -/
theorem WFD_hd {D : Nat → Nat} {F : Nat → Nat → Nat} {bc c N : Nat → Nat} {l r : Nat} (h : WFD D F bc c N) (hl : l < 4) (hr : r < 16) (hr0 : oB D r = 0) (hN : N l < 2 ^ 31) (hne : 0 < c l → ¬ sRs D (F l (c l - 1)) (bc (F l (c l - 1))) = []) :
    WFD (dW D (128 * r) 32 (gB0 (hdr 8 (l + 1) 0 (N l)))) (upl F l (fun k => if k = c l then r else F l k)) (fun y => if y = r then 0 else bc y) (upl c l (c l + 1)) N ∧ mB (dW D (128 * r) 32 (gB0 (hdr 8 (l + 1) 0 (N l)))) r = 8 ∧ bB (dW D (128 * r) 32 (gB0 (hdr 8 (l + 1) 0 (N l)))) r = N l := by
  obtain ⟨D', hD'⟩ : ∃ D', D' = dW D (128 * r) 32 (gB0 (hdr 8 (l + 1) 0 (N l))) := ⟨_, rfl⟩
  have hin : ∀ i, i < 32 → D' (128 * r + i) = gB0 (hdr 8 (l + 1) 0 (N l)) i := fun i hi => by
    rw [hD']
    exact dW_in hi
  have hout : ∀ t i, ¬ t = r → i < 128 → D' (128 * t + i) = D (128 * t + i) := fun t i ht hi => by
    rw [hD']
    exact dW_out (by omega)
  rw [← hD']
  have h0 : D' (128 * r) = 0 := by
    have := hin 0 (by decide)
    rw [Nat.add_zero] at this
    rw [this]
    unfold hdr
    rfl
  have h1 : D' (128 * r + 1) = 8 := by
    rw [hin 1 (by decide)]
    unfold hdr
    rfl
  have h2 : oB D' r = l + 1 := by
    show D' (128 * r + 2) = _
    rw [hin 2 (by decide)]
    unfold hdr
    show (l + 1) % 256 = l + 1
    omega
  have h4 : D' (128 * r + 4) = N l / 2 ^ 24 % 256 := by
    rw [hin 4 (by decide)]
    unfold hdr
    exact gB0_h4 _ _ _ _ _ _ _ _
  have h5 : D' (128 * r + 5) = N l / 2 ^ 16 % 256 := by
    rw [hin 5 (by decide)]
    unfold hdr
    exact gB0_h5 _ _ _ _ _ _ _ _
  have h6 : D' (128 * r + 6) = N l / 2 ^ 8 % 256 := by
    rw [hin 6 (by decide)]
    unfold hdr
    exact gB0_h6 _ _ _ _ _ _ _ _
  have h7 : D' (128 * r + 7) = N l / 2 ^ 0 % 256 := by
    rw [hin 7 (by decide)]
    unfold hdr
    exact gB0_h7 _ _ _ _ _ _ _ _
  have em : mB D' r = 8 := by
    show D' (128 * r) * 256 + D' (128 * r + 1) = 8
    rw [h0, h1]
  have eb : bB D' r = N l := by
    show D' (128 * r + 4) * 2 ^ 24 + D' (128 * r + 5) * 2 ^ 16 + D' (128 * r + 6) * 2 ^ 8 + D' (128 * r + 7) = N l
    rw [h4, h5, h6, h7]
    generalize N l = x at hN
    omega
  have ho : ∀ t, t < 16 → ¬ t = r → oB D' t = oB D t := fun t _ ht => hout t 2 ht (by decide)
  have hsm : ∀ t, ¬ t = r → SmS D D' t := fun t ht i hi _ _ => hout t i ht hi
  have hWr : WS D' r 0 := ⟨by rw [em]; decide, by rw [em]; rfl, fun i hi => absurd hi (Nat.not_lt_zero i)⟩
  refine ⟨⟨fun y hy => ?_, fun t ht => ?_⟩, em, eb⟩
  · have hWy := h.1 y hy
    have hn : ∀ k, k < c y → ¬ F y k = r := fun k hk e => by
      have h9 := (hWy.1.1 k hk).2.1
      rw [e, hr0] at h9
      omega
    by_cases hyl : y = l
    · subst hyl
      rw [upl_s, upl_s]
      have hbb : ∀ k, k < c y → bB D' (if k = c y then r else F y k) = bB D (F y k) := fun k hk => by
        rw [if_neg (by omega), (SmS_hd (hsm _ (hn k hk))).2]
      have hlast : ∀ k, k < c y → bB D (F y k) < N y := fun k hk => by
        have h10 := hWy.2.2.2.1 (c y - 1) (by omega)
        rw [if_neg (by omega)] at h10
        have h11 := hne (by omega)
        have h12 : bB D (F y (c y - 1)) < N y := by
          cases hL : sRs D (F y (c y - 1)) (bc (F y (c y - 1))) with
          | nil => exact absurd hL h11
          | cons a t =>
            have h13 : Asc (bB D (F y (c y - 1))) (N y) (sRs D (F y (c y - 1)) (bc (F y (c y - 1)))) := h10
            rw [hL] at h13
            obtain ⟨o, _, h14, h15, _⟩ := h13
            omega
        have h16 := LO_mono hWy.2.2 (show k ≤ c y - 1 by omega) (by omega)
        have h17 : bB D (F y k) ≤ bB D (F y (c y - 1)) := h16
        omega
      refine ⟨⟨fun k hk => ?_, fun t ht hto => ?_, fun i j hij hj => ?_⟩, fun k hk => ?_, ?_⟩
      · show (if k = c y then r else F y k) < 16 ∧ oB D' (if k = c y then r else F y k) = y + 1 ∧ bB D' (if k = c y then r else F y k) < 2 ^ 31
        by_cases e : k = c y
        · rw [if_pos e, eb]
          exact ⟨hr, h2, hN⟩
        · have h9 := hWy.1.1 k (by omega)
          rw [hbb k (by omega), if_neg e, ho _ h9.1 (hn k (by omega))]
          exact h9
      · by_cases e : t = r
        · exact ⟨c y, by omega, (if_pos rfl).trans e.symm⟩
        · rw [ho t ht e] at hto
          obtain ⟨k, hk, ek⟩ := hWy.1.2.1 t ht hto
          exact ⟨k, by omega, (if_neg (by omega)).trans ek⟩
      · show bB D' (if i = c y then r else F y i) < bB D' (if j = c y then r else F y j)
        by_cases e : j = c y
        · rw [if_pos e, eb, hbb i (by omega)]
          exact hlast i (by omega)
        · rw [hbb i (by omega), hbb j (by omega)]
          exact hWy.1.2.2 i j hij (by omega)
      · show WS D' (if k = c y then r else F y k) (if (if k = c y then r else F y k) = r then 0 else bc (if k = c y then r else F y k))
        by_cases e : k = c y
        · rw [if_pos e, if_pos rfl]
          exact hWr
        · rw [if_neg e, if_neg (hn k (by omega))]
          exact SmS_WS (hsm _ (hn k (by omega))) (hWy.2.1 k (by omega))
      · have h20 := LO_new (ba' := fun k => bB D' (if k = c y then r else F y k)) (rs' := fun k => sRs D' (if k = c y then r else F y k) (if (if k = c y then r else F y k) = r then 0 else bc (if k = c y then r else F y k))) (x := []) hWy.2.2 hne hbb (by show bB D' (if c y = c y then r else _) = _; rw [if_pos rfl]; exact eb) (fun k hk => by
          show sRs D' (if k = c y then r else F y k) (if (if k = c y then r else F y k) = r then 0 else bc (if k = c y then r else F y k)) = _
          rw [if_neg (by omega), if_neg (hn k hk)]
          exact SmS_sRs (hsm _ (hn k hk)) (hWy.2.1 k hk)) (by
          show sRs D' (if c y = c y then r else F y (c y)) (if (if c y = c y then r else F y (c y)) = r then 0 else bc (if c y = c y then r else F y (c y))) = []
          rw [if_pos rfl, if_pos rfl]
          rfl) (by show N y + 0 < 2 ^ 32; omega) (fun k hk => absurd hk (Nat.not_lt_zero k)) (fun _ r hr => absurd hr (List.not_mem_nil))
        exact h20
    · rw [upl_n hyl, upl_n hyl]
      refine WL_bc (WL_same hWy (fun t ht => ?_) (fun t ht hto => ?_)) (fun k hk => if_neg (hn k hk))
      · by_cases e : t = r
        · rw [e, h2, hr0]
          omega
        · rw [ho t ht e]
      · refine hsm t (fun e => ?_)
        rw [e, hr0] at hto
        omega
  · by_cases e : t = r
    · rw [e, h2]
      omega
    · rw [ho t ht e]
      exact h.2 t ht
