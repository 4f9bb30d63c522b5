/-! fetched and committed keep what holds. -/
/-- a call that may throw, as the law makes it, then the model's: the same code, the same answer, and all holds again -/
def twx (mj : Nat) (mlm : mLs) (k n u : Nat) (L : Nat) (xs : Nat → Int32) : mO × mHp → Prop := fun o => ∃ cd n1 u1 I1 A1 J1 B1 mk1 sn1 X1, o = (.inl (some (.int (nI cd))), hS n1 u1 I1 A1 J1 B1 mk1 sn1 L xs X1) ∧ cd < 5 ∧ n ≤ n1 ∧ n1 ≤ n + 1 ∧ u1 ≤ u + 6 ∧ mq mj 0 mlm [] (hS n1 u1 I1 A1 J1 B1 mk1 sn1 L xs X1) (fun o2 => ∃ b S2 I2 A2, o2 = (.inl (some (.int b)), hS n1 u1 I2 A2 J1 B1 mk1 sn1 L xs X1) ∧ I2 60 = nI cd ∧ (cd = 0 → B1 0 = b.toInt64) ∧ INV k S2 I2 A2 mk1 sn1)
theorem vp_0 (B : Nat → Int64) (x : Int64) : vp_updL B 0 x 0 = x := pk_uLs
section S93
variable {n u : Nat} {I : Nat → Int32} {A : Nat → Nat → Int32} {J : Int64} {B : Nat → Int64} {mk sn L : Nat} {xs : Nat → Int32} {X : Nat → mC} {D : Nat → Nat} {S : DS} {k : Nat}
set_option maxRecDepth 100000 in
set_option maxHeartbeats 4000000 in
theorem op_fetched (h : INV k S I A mk sn) (hn : 77 ≤ n ∧ n < 10000) (hu : u + 6 < 1000000) (a w : Int32) : mq 82 0 [some (.ref 1), some (.int a), some (.int w), some (.ref 76), none] [] (hS n u I A J B mk sn L xs X) (twx 141 [some (.ref 67), some (.int a), some (.int w)] (k + 1) n u L xs) := by
  have h' := h
  obtain ⟨_, _, _, _, ⟨fl, f1, f2, f3⟩, _⟩ := h
  refine w_82 ?_
  have bad : ((a < 0 ∨ nI fl.length ≤ a) ∨ (w < 0 ∨ nI 5 ≤ w)) → mq 83 0 [some (.ref 1), some (.int a), some (.int w)] [] (hS n u I A J B mk sn L xs X) (wQ cd82 B L xs (twx 141 [some (.ref 67), some (.int a), some (.int w)] (k + 1) n u L xs)) := fun hx => by
    refine k_83x f2.1 f1 hx hn hu (Or.inr ⟨12, n, u + 6, I, A, J, mk, sn, X, rfl, hn.1, by decide, by decide, ?_⟩)
    refine ⟨1, n + 1, u + 6, I, A, J, B, mk, sn, _, rfl, by decide, by omega, by omega, by omega, ?_⟩
    exact k_141x f3.1 f1 hx ⟨nI 0, S, va_up I 60 (nI 1), A, rfl, rfl, fun q => absurd q (by decide), INV_60 h' _⟩
  rcases pk_ix a (n := fl.length) (by omega) with h1 | h1 | ⟨x, hx, ex⟩
  · exact bad (Or.inl (Or.inl h1))
  · exact bad (Or.inl (Or.inr h1))
  rcases pk_ix w (n := 5) (by decide) with h1 | h1 | ⟨y, hy, ey⟩
  · exact bad (Or.inr (Or.inl h1))
  · exact bad (Or.inr (Or.inr h1))
  subst ex ey
  have g2 := f2.2 x hx
  have g3 := f3.2 x hx
  match y, hy with
  | 0, _ =>
    refine k_83_0 f2.1 f1 hx (Or.inl ⟨_, n, u, I, A, J, mk, sn, X, rfl, ?_⟩)
    refine ⟨0, n, u, I, A, J, _, mk, sn, X, rfl, by decide, by omega, by omega, by omega, ?_⟩
    refine k_141 (w := 0) f3.1 f1 hx (by decide) ⟨_, S, va_up I 60 (nI 0), A, rfl, rfl, fun _ => ?_, INV_60 h' _⟩
    rw [vp_0, g2.1]
    exact congrArg Int32.toInt64 (g3.1).symm
  | 1, _ =>
    refine k_83_1 f2.1 f1 hx (Or.inl ⟨_, n, u, I, A, J, mk, sn, X, rfl, ?_⟩)
    refine ⟨0, n, u, I, A, J, _, mk, sn, X, rfl, by decide, by omega, by omega, by omega, ?_⟩
    refine k_141 (w := 1) f3.1 f1 hx (by decide) ⟨_, S, va_up I 60 (nI 0), A, rfl, rfl, fun _ => ?_, INV_60 h' _⟩
    rw [vp_0, g2.2.1]
    exact congrArg Int32.toInt64 (g3.2.1).symm
  | 2, _ =>
    refine k_83_2 f2.1 f1 hx (Or.inl ⟨_, n, u, I, A, J, mk, sn, X, rfl, ?_⟩)
    refine ⟨0, n, u, I, A, J, _, mk, sn, X, rfl, by decide, by omega, by omega, by omega, ?_⟩
    refine k_141 (w := 2) f3.1 f1 hx (by decide) ⟨_, S, va_up I 60 (nI 0), A, rfl, rfl, fun _ => ?_, INV_60 h' _⟩
    rw [vp_0, g2.2.2.1]
    exact congrArg Int32.toInt64 (g3.2.2.1).symm
  | 3, _ =>
    refine k_83_3 f2.1 f1 hx (Or.inl ⟨_, n, u, I, A, J, mk, sn, X, rfl, ?_⟩)
    refine ⟨0, n, u, I, A, J, _, mk, sn, X, rfl, by decide, by omega, by omega, by omega, ?_⟩
    refine k_141 (w := 3) f3.1 f1 hx (by decide) ⟨_, S, va_up I 60 (nI 0), A, rfl, rfl, fun _ => ?_, INV_60 h' _⟩
    rw [vp_0, g2.2.2.2.1]
    exact congrArg Int32.toInt64 (g3.2.2.2.1).symm
  | 4, _ =>
    refine k_83_4 f2.1 f1 hx (Or.inl ⟨_, n, u, I, A, J, mk, sn, X, rfl, ?_⟩)
    refine ⟨0, n, u, I, A, J, _, mk, sn, X, rfl, by decide, by omega, by omega, by omega, ?_⟩
    refine k_141 (w := 4) f3.1 f1 hx (by decide) ⟨_, S, va_up I 60 (nI 0), A, rfl, rfl, fun _ => ?_, INV_60 h' _⟩
    rw [vp_0, g2.2.2.2.2]
    exact congrArg Int32.toInt64 (g3.2.2.2.2).symm
set_option maxRecDepth 100000 in
set_option maxHeartbeats 4000000 in
theorem op_committed (h : INV k S I A mk sn) (hn : 77 ≤ n ∧ n < 10000) (hu : u + 6 < 1000000) (a b : Int32) : mq 90 0 [some (.ref 1), some (.int a), some (.int b), some (.ref 76), none] [] (hS n u I A J B mk sn L xs X) (twx 145 [some (.ref 67), some (.int a), some (.int b)] (k + 1) n u L xs) := by
  have h' := h
  obtain ⟨⟨k1, k2⟩, ⟨m1, m2⟩, _, _, _, _, _, hon, hoff⟩ := h
  refine w_90 ?_
  by_cases ho : dO S = true
  · have h0 : I 0 = nI 0 := by
      rw [k1.1, ho]
      rfl
    have h61 : I 61 = nI 1 := by
      rw [m1.1, ho]
      rfl
    refine k_91x h0 hn hu (Or.inr ⟨9, n, u + 6, I, A, J, mk, sn, X, rfl, hn.1, by decide, by decide, ?_⟩)
    refine ⟨1, n + 1, u + 6, I, A, J, B, mk, sn, _, rfl, by decide, by omega, by omega, by omega, ?_⟩
    exact k_145x h61 ⟨nI 0, S, va_up I 60 (nI 1), A, rfl, rfl, fun q => absurd q (by decide), INV_60 h' _⟩
  · have of := ne_true ho
    have h0 : I 0 = nI 1 := by
      rw [k1.1, of]
      rfl
    have h61 : I 61 = nI 0 := by
      rw [m1.1, of]
      rfl
    obtain ⟨F, bc, c, N, _, _, _, _, ⟨cc, hcc⟩⟩ := hon of
    have bad : ((a < 0 ∨ nI 8 ≤ a) ∨ (b < 0 ∨ nI 3 ≤ b)) → mq 91 0 [some (.ref 1), some (.int a), some (.int b)] [] (hS n u I A J B mk sn L xs X) (wQ cd90 B L xs (twx 145 [some (.ref 67), some (.int a), some (.int b)] (k + 1) n u L xs)) := fun hx => by
      refine k_91b h0 hx (Or.inl ⟨_, n, u, I, A, J, mk, sn, X, rfl, ?_⟩)
      refine ⟨0, n, u, I, A, J, _, mk, sn, X, rfl, by decide, by omega, by omega, by omega, ?_⟩
      exact k_145b h61 hx ⟨-1, S, va_up I 60 (nI 0), A, rfl, rfl, fun _ => vp_0 _ _, INV_60 h' _⟩
    rcases pk_ix a (n := 8) (by decide) with h1 | h1 | ⟨x, hx, ex⟩
    · exact bad (Or.inl (Or.inl h1))
    · exact bad (Or.inl (Or.inr h1))
    rcases pk_ix b (n := 3) (by decide) with h1 | h1 | ⟨y, hy, ey⟩
    · exact bad (Or.inr (Or.inl h1))
    · exact bad (Or.inr (Or.inr h1))
    subst ex ey
    refine k_91 h0 hx hy (Or.inl ⟨_, n, u, I, A, J, mk, sn, X, rfl, ?_⟩)
    refine ⟨0, n, u, I, A, J, _, mk, sn, X, rfl, by decide, by omega, by omega, by omega, ?_⟩
    refine k_145 h61 hx hy ⟨_, S, va_up I 60 (nI 0), A, rfl, rfl, fun _ => ?_, INV_60 h' _⟩
    have h5 := hcc (4 * x + y) (by omega)
    rw [vp_0, h5.1, h5.2]
    have key : ∀ z : Int32, z + 1 - 1 = z := fun z => Int32.add_sub_cancel z 1
    rw [key]
end S93
