/-! known, cut keep what holds. -/
theorem kn_eq {s c o s' o' w : Int32} {m : Nat} (hc : c = nI m) (hm : m < 5) (h : ¬ m = 0 → s = s' ∧ o = o') : kn s c o w = kn s' c o' w := by
  by_cases e : m = 0
  · rw [kn_0 _ _ _ (by rw [hc, e]; rfl), kn_0 _ _ _ (by rw [hc, e]; rfl)]
  · rw [(h e).1, (h e).2]
/-- what both know of a producer, on or off -/
theorem INV_kn {k : Nat} {S : DS} {I : Nat → Int32} {A : Nat → Nat → Int32} {mk sn l p : Nat} (h : INV k S I A mk sn) (hl : l < 4) (hp : p < 8) : ∃ m, m < 5 ∧ A (32 + 4 * l) p = nI m ∧ A 55 (3 * (8 * l + p) + 1) = nI m ∧ (¬ m = 0 → A (31 + 4 * l) p = A 55 (3 * (8 * l + p)) ∧ A (33 + 4 * l) p = A 55 (3 * (8 * l + p) + 2) ∧ ∃ o, o < 2 ^ 31 ∧ A (33 + 4 * l) p = nI o) := by
  obtain ⟨_, _, _, _, _, _, _, hon, hoff⟩ := h
  by_cases ho : dO S = true
  · obtain ⟨o1, o2, _⟩ := hoff ho
    exact ⟨0, by decide, (o1.2.2.2 l hl).2.2.2 p hp, o2.2.2.1 _ (by omega), fun q => absurd rfl q⟩
  · obtain ⟨F, bc, c, N, _, _, _, ⟨a, ha⟩, _⟩ := hon (ne_true ho)
    obtain ⟨h1, h2, h3⟩ := ha l hl
    have h4 := h3 p hp
    refine ⟨(a l p).2.1, by omega, (h1 p hp).1, (h2 p hp).1, fun q => ?_⟩
    have e1 := (h1 p hp).2 q
    have e2 := (h2 p hp).2 q
    refine ⟨e1.1.trans e2.1.symm, e1.2.trans e2.2.symm, ?_⟩
    obtain ⟨o, ho31, eo⟩ := h4.2 q
    exact ⟨o, ho31, e1.2.trans eo⟩
section S90
variable {n u : Nat} {I : Nat → Int32} {A : Nat → Nat → Int32} {J : Int64} {B : Nat → Int64} {mk sn L : Nat} {xs : Nat → Int32} {X : Nat → mC} {D : Nat → Nat} {S : DS} {k : Nat}
set_option maxRecDepth 100000 in
set_option maxHeartbeats 4000000 in
theorem op_known (h : INV k S I A mk sn) (a b w : Int32) : mq 52 0 [some (.ref 1), some (.int a), some (.int b), some (.int w)] [] (hS n u I A J B mk sn L xs X) (two 158 [some (.ref 67), some (.int a), some (.int b), some (.int w), none] (k + 1) n u J B L xs X) := by
  rcases pk_ix a (n := 4) (by decide) with h1 | h1 | ⟨l, hl, el⟩
  · refine k_52b (Or.inl h1) ⟨-1, I, A, mk, sn, rfl, ?_⟩
    exact k_158b (Or.inl (Or.inl h1)) ⟨S, _, A, rfl, INV_60 h _⟩
  · refine k_52b (Or.inr h1) ⟨-1, I, A, mk, sn, rfl, ?_⟩
    exact k_158b (Or.inl (Or.inr h1)) ⟨S, _, A, rfl, INV_60 h _⟩
  subst el
  rcases pk_ix b (n := 8) (by decide) with h1 | h1 | ⟨p, hp, ep⟩
  · refine k_52c hl (Or.inl h1) ⟨-1, I, A, mk, sn, rfl, ?_⟩
    exact k_158b (Or.inr (Or.inl h1)) ⟨S, _, A, rfl, INV_60 h _⟩
  · refine k_52c hl (Or.inr h1) ⟨-1, I, A, mk, sn, rfl, ?_⟩
    exact k_158b (Or.inr (Or.inr h1)) ⟨S, _, A, rfl, INV_60 h _⟩
  subst ep
  obtain ⟨m, hm5, e1, e2, e3⟩ := INV_kn h hl hp
  match l, hl, e1, e2, e3 with
  | 0, _, e1, e2, e3 =>
    refine k_52_0 hp e1 hm5 ⟨_, I, A, mk, sn, rfl, ?_⟩
    refine k_158 (l := 0) (by decide) hp ⟨S, va_up I 60 (nI 0), A, ?_, INV_60 h (nI 0)⟩
    have e5 : kn (A 31 p) (A 32 p) (A 33 p) w = kn (A 55 (3 * (8 * 0 + p))) (A 55 (3 * (8 * 0 + p) + 1)) (A 55 (3 * (8 * 0 + p) + 2)) w := by
      rw [show A 55 (3 * (8 * 0 + p) + 1) = A 32 p from e2.trans e1.symm]
      exact kn_eq e1 hm5 (fun q => ⟨(e3 q).1, (e3 q).2.1⟩)
    rw [e5]
  | 1, _, e1, e2, e3 =>
    refine k_52_1 hp e1 hm5 ⟨_, I, A, mk, sn, rfl, ?_⟩
    refine k_158 (l := 1) (by decide) hp ⟨S, va_up I 60 (nI 0), A, ?_, INV_60 h (nI 0)⟩
    have e5 : kn (A 35 p) (A 36 p) (A 37 p) w = kn (A 55 (3 * (8 * 1 + p))) (A 55 (3 * (8 * 1 + p) + 1)) (A 55 (3 * (8 * 1 + p) + 2)) w := by
      rw [show A 55 (3 * (8 * 1 + p) + 1) = A 36 p from e2.trans e1.symm]
      exact kn_eq e1 hm5 (fun q => ⟨(e3 q).1, (e3 q).2.1⟩)
    rw [e5]
  | 2, _, e1, e2, e3 =>
    refine k_52_2 hp e1 hm5 ⟨_, I, A, mk, sn, rfl, ?_⟩
    refine k_158 (l := 2) (by decide) hp ⟨S, va_up I 60 (nI 0), A, ?_, INV_60 h (nI 0)⟩
    have e5 : kn (A 39 p) (A 40 p) (A 41 p) w = kn (A 55 (3 * (8 * 2 + p))) (A 55 (3 * (8 * 2 + p) + 1)) (A 55 (3 * (8 * 2 + p) + 2)) w := by
      rw [show A 55 (3 * (8 * 2 + p) + 1) = A 40 p from e2.trans e1.symm]
      exact kn_eq e1 hm5 (fun q => ⟨(e3 q).1, (e3 q).2.1⟩)
    rw [e5]
  | 3, _, e1, e2, e3 =>
    refine k_52_3 hp e1 hm5 ⟨_, I, A, mk, sn, rfl, ?_⟩
    refine k_158 (l := 3) (by decide) hp ⟨S, va_up I 60 (nI 0), A, ?_, INV_60 h (nI 0)⟩
    have e5 : kn (A 43 p) (A 44 p) (A 45 p) w = kn (A 55 (3 * (8 * 3 + p))) (A 55 (3 * (8 * 3 + p) + 1)) (A 55 (3 * (8 * 3 + p) + 2)) w := by
      rw [show A 55 (3 * (8 * 3 + p) + 1) = A 44 p from e2.trans e1.symm]
      exact kn_eq e1 hm5 (fun q => ⟨(e3 q).1, (e3 q).2.1⟩)
    rw [e5]
end S90
