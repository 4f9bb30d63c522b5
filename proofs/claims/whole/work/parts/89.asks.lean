/-! octet, look, known, cut keep what holds. -/
/-- what only reads -/
theorem INV_r {k : Nat} {S : DS} {I I' : Nat → Int32} {A A' : Nat → Nat → Int32} {mk sn : Nat} (h : INV k S I A mk sn) (f : Fr [4, 5, 6, 7, 8, 9, 10, 20, 21, 22, 60, 65, 66, 67, 71] I I') (g : Fr [10, 11, 12, 13, 14, 52] A A') : INV (k + 1) S I' A' mk sn := by
  obtain ⟨⟨k1, k2⟩, ⟨m1, m2⟩, hm, ⟨l, l4, lg, lB, l64, lT⟩, ⟨fl, f1, f2, f3⟩, h11, h53, hon, hoff⟩ := h
  refine ⟨⟨rgK_fr k1 f (by decide), by rw [g 0 (by decide)]; exact k2⟩, ⟨rgM_fr m1 f (by decide), by rw [g 50 (by decide)]; exact m2⟩, hm, ⟨l, l4, lg, ?_, (f 64 (by decide)).trans l64, fun x hx => by rw [g 51 (by decide)]; exact lT x hx⟩, ⟨fl, f1, FC_fr f2 f g (by decide) (by decide) (by decide) (by decide) (by decide) (by decide), FM_fr2 f3 f g (by decide) (by decide)⟩, ((f 11 (by decide)).trans h11).trans (f 70 (by decide)).symm, ⟨by rw [g 53 (by decide)]; exact h53.1, by rw [g 53 (by decide)]; exact h53.2⟩, fun q => ?_, fun q => ?_⟩
  · rcases hm with ⟨e, _⟩ | ⟨e, _⟩
    · subst e
      have hB : BC 2 I A l := lB
      refine (⟨(f 28 (by decide)).trans hB.1, fun x hx => ?_⟩ : BC 2 I' A' l)
      rw [g _ (by decide), g _ (by decide), g _ (by decide), g _ (by decide), g _ (by decide)]
      exact hB.2 x hx
    · subst e
      have hB : BC 3 I A l := lB
      refine (⟨(f 31 (by decide)).trans hB.1, fun x hx => ?_⟩ : BC 3 I' A' l)
      rw [g _ (by decide), g _ (by decide), g _ (by decide), g _ (by decide), g _ (by decide)]
      exact hB.2 x hx
  · obtain ⟨F, bc, c, N, ho⟩ := hon q
    exact ⟨F, bc, c, N, ON_fr ho (Nat.le_succ k) f g (fun r h1 h2 => by simp; omega) ⟨fun r h1 h2 => by simp; omega, by decide, by decide, by decide⟩⟩
  · obtain ⟨o1, o2, D1, w, F, bc, c, N, r1, r2, r3⟩ := hoff q
    exact ⟨offK_fr o1 f g ⟨by decide, by decide, fun r h1 h2 => by simp; omega⟩ ⟨fun r h1 h2 => by simp; omega, by decide⟩, offM_fr o2 f g (by decide) (by decide), D1, w, F, bc, c, N, r1, r2, fun l hl => by have := r3 l hl; omega⟩
theorem INV_60 {k : Nat} {S : DS} {I : Nat → Int32} {A : Nat → Nat → Int32} {mk sn : Nat} (h : INV k S I A mk sn) (x : Int32) : INV (k + 1) S (va_up I 60 x) A mk sn := INV_r h (Fr_u (Fr_refl _ I) (by decide)) (Fr_refl _ A)
/-- 1 where the power is on -/
def onN (S : DS) : Nat := if dO S = true then 0 else 1
theorem onN_le (S : DS) : onN S ≤ 1 := by
  unfold onN
  split <;> omega
theorem onN_61 {S : DS} {I : Nat → Int32} (h : rgM S I) : I 61 = nI (1 - onN S) := by
  rw [h.1]
  unfold onN
  by_cases e : dO S = true
  · rw [if_pos e, if_pos e]
  · rw [if_neg e, if_neg e]
section S89
variable {n u : Nat} {I : Nat → Int32} {A : Nat → Nat → Int32} {J : Int64} {B : Nat → Int64} {mk sn L : Nat} {xs : Nat → Int32} {X : Nat → mC} {D : Nat → Nat} {S : DS} {k : Nat}
set_option maxRecDepth 100000 in
set_option maxHeartbeats 4000000 in
theorem op_octet (h : INV k S I A mk sn) (a b : Int32) : mq 54 0 [some (.ref 1), some (.int a), some (.int b)] [] (hS n u I A J B mk sn L xs X) (two 159 [some (.ref 67), some (.int a), some (.int b)] (k + 1) n u J B L xs X) := by
  have bad : ((a < 0 ∨ nI 64 ≤ a) ∨ (b < 0 ∨ nI 32 ≤ b)) → mq 54 0 [some (.ref 1), some (.int a), some (.int b)] [] (hS n u I A J B mk sn L xs X) (two 159 [some (.ref 67), some (.int a), some (.int b)] (k + 1) n u J B L xs X) := fun hx => by
    refine k_54b hx ⟨-1, I, A, mk, sn, rfl, ?_⟩
    exact k_159b hx ⟨S, _, A, rfl, INV_60 h _⟩
  rcases pk_ix a (n := 64) (by decide) with h1 | h1 | ⟨x, hx, ex⟩
  · exact bad (Or.inl (Or.inl h1))
  · exact bad (Or.inl (Or.inr h1))
  rcases pk_ix b (n := 32) (by decide) with h1 | h1 | ⟨y, hy, ey⟩
  · exact bad (Or.inr (Or.inl h1))
  · exact bad (Or.inr (Or.inr h1))
  subst ex ey
  refine k_54 h.1.2 hx hy ⟨_, I, A, mk, sn, rfl, ?_⟩
  exact k_159 h.2.1.2 hx hy ⟨S, _, A, rfl, INV_60 h _⟩
set_option maxRecDepth 100000 in
set_option maxHeartbeats 4000000 in
theorem op_look (h : INV k S I A mk sn) (w : Int32) : mq 55 0 [some (.ref 1), some (.int w)] [] (hS n u I A J B mk sn L xs X) (two 160 [some (.ref 67), some (.int w), none, none] (k + 1) n u J B L xs X) := by
  have h' := h
  obtain ⟨⟨k1, k2⟩, ⟨m1, m2⟩, hm, ⟨l, l4, lg, lB, l64, lT⟩, ⟨fl, f1, f2, f3⟩, h11, h53, hon, hoff⟩ := h
  have h0 : I 0 = nI (onN S) := k1.1
  have h3 : I 3 = I 62 := k1.2.2.trans m1.2.2.symm
  have h16 : I 16 = I 69 := f2.1.trans f3.1.symm
  have key : ∀ r, I r = nI l.length → (fun o2 : mO × mHp => ∃ S2 I2 A2, o2 = (.inl (some (.int (lkv (nI (onN S)) (I 3) (nI (fcS (dD S) 16 0)) (I r) (I 11) (I 16) w))), hS n u I2 A2 J B mk sn L xs X) ∧ INV (k + 1) S2 I2 A2 mk sn) (.inl (some (.int (lkv (nI (onN S)) (I 62) (nI (fcS (dD S) 16 0)) (I 64) (I 70) (I 69) w))), hS n u (va_up I 60 (nI 0)) A J B mk sn L xs X) := fun r hr => by
    refine ⟨S, va_up I 60 (nI 0), A, ?_, INV_60 h' (nI 0)⟩
    rw [h3, h16, h11, hr, l64]
  rcases hm with ⟨e, e'⟩ | ⟨e, e'⟩
  · subst e e'
    refine k_55_53 k2 h0 (onN_le S) ⟨_, I, A, 53, 60, rfl, ?_⟩
    exact k_160 m2 (onN_61 m1) (onN_le S) (key 28 lB.1)
  · subst e e'
    refine k_55_60 k2 h0 (onN_le S) ⟨_, I, A, 60, 53, rfl, ?_⟩
    exact k_160 m2 (onN_61 m1) (onN_le S) (key 31 lB.1)
end S89
