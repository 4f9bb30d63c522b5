/-! retain keeps what holds. -/
theorem rt_bB {lim : Int64} {bc : Nat → Nat} : ∀ (z : Nat) {S : DS} {f : Nat → Nat} {n g : Nat} (s : Nat), bB (dD (rt lim bc z S f n g).1) s = bB (dD S) s
  | 0, S, f, n, g, s => rfl
  | z + 1, S, f, n, g, s => by
    by_cases hc : go (dD S) f bc n lim = true ∧ dO S = false
    · have e : rt lim bc (z + 1) S f n g = rt lim bc z (wr1 S (owW (f 0) 0)) (sh f) (n - 1) (g + 1) := if_pos hc
      rw [e, rt_bB z s]
      by_cases hw : dO (wr1 S (owW (f 0) 0)) = true
      · rw [wr_due hc.2 hw]
      · have e2 : dD (wr1 S (owW (f 0) 0)) = ow0 (dD S) (f 0) := (wr1_D (ne_true hw)).2
        rw [e2, ow0_b]
    · have e : rt lim bc (z + 1) S f n g = (S, f, n, g) := if_neg hc
      rw [e]
/-- a log that was left alone -/
theorem LK_oth {D D' : Nat → Nat} {l n N : Nat} {f bc bc' : Nat → Nat} {I I' : Nat → Int32} {A A' : Nat → Nat → Int32} {X Y : List Nat} (h : LK l D f bc n I A) (hW : WL D l f bc n N) (hW' : WL D' l f bc' n N) (hb : 0 < n → bB D' (f 0) = bB D (f 0)) (f' : Fr X I I') (g : Fr Y A A') (hx : 40 + 3 * l ∉ X ∧ 41 + 3 * l ∉ X ∧ 42 + 3 * l ∉ X) (hy : 30 + 4 * l ∉ Y) : LK l D' f bc' n I' A' := by
  refine ⟨(f' _ hx.1).trans h.1, fun k hk => by rw [g _ hy]; exact h.2.1 k hk, (f' _ hx.2.1).trans (h.2.2.1.trans ?_), (f' _ hx.2.2).trans (h.2.2.2.trans ?_)⟩
  · unfold stO
    by_cases e : 1 < l ∨ n = 0
    · rw [if_pos e, if_pos e]
    · rw [if_neg e, if_neg e, hb (by omega)]
  · rw [WL_nx hW, WL_nx hW']
