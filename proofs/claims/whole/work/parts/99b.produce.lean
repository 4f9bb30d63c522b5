/-! produce keeps what holds: the call. -/
theorem below_m1 {x : Int32} (h : x < 0) (h1 : ¬ x = -1) : x < -1 := by
  rw [Int32.lt_iff_toInt_lt] at h ⊢
  have e : (-1 : Int32).toInt = -1 := by decide
  have e0 : (0 : Int32).toInt = 0 := by decide
  have h2 : ¬ x.toInt = -1 := fun z => h1 (Int32.toInt_inj.mp (z.trans e.symm))
  omega
section S99b
variable {n u : Nat} {I : Nat → Int32} {A : Nat → Nat → Int32} {J : Int64} {B : Nat → Int64} {mk sn L : Nat} {xs : Nat → Int32} {X : Nat → mC} {D : Nat → Nat} {S : DS} {k : Nat}
set_option maxRecDepth 100000 in
set_option maxHeartbeats 4000000 in
theorem op_pr_53 (h : INV k S I A 53 60) (hk : k ≤ 1000) (hn : 77 ≤ n ∧ n < 10000) (hu : u + 6 < 1000000) (a p q : Int32) : mq 58 0 [some (.ref 1), some (.int a), some (.int p), some (.int q), none, none, none, none] [] (hS n u I A J B 53 60 L xs X) (wQ cd57 B L xs (twx 113 [some (.ref 67), some (.int a), some (.int p), some (.int q), none, none, none, none] (k + 1) n u L xs)) := by
  obtain ⟨⟨k1, k2⟩, ⟨m1, m2⟩, hmk, ⟨l, l4, lg, lB, l64, lT⟩, _, _, h53, hon, hoff⟩ := id h
  have lB' : BC 2 I A l := lB
  by_cases ho : dO S = true
  · have h0 : I 0 = nI 0 := by
      rw [k1.1, ho]
      rfl
    have h61 : I 61 = nI 1 := by
      rw [m1.1, ho]
      rfl
    refine k_58x_53 h0 hn hu (Or.inr ⟨9, n, u + 6, va_up I 31 (nI 0), A, J, 60, 53, X, rfl, hn.1, by decide, by decide, ?_⟩)
    refine ⟨1, n + 1, u + 6, va_up I 31 (nI 0), A, J, B, 60, 53, _, rfl, by decide, by omega, by omega, by omega, ?_⟩
    refine k_113x (I := va_up I 31 (nI 0)) (nn := l.length) h61 l64 ⟨nI 0, S, va_up (va_up (va_up I 31 (nI 0)) 64 (nI 0)) 60 (nI 1), A, rfl, rfl, fun q => absurd q (by decide), INV_t h ?_ (Fr_refl _ A) rfl rfl⟩
    exact Fr_u (Fr_u (Fr_u (Fr_refl _ I) (by decide)) (by decide)) (by decide)
  · have of := ne_true ho
    have h61 : I 61 = nI 0 := by
      rw [m1.1, of]
      rfl
    have hkD : kD 53 S I A := kD_of of ⟨k1, k2⟩
    have bad : ((a < 0 ∨ nI 3 ≤ a) ∨ (p < -1 ∨ nI 8 ≤ p) ∨ (¬ p = -1 ∧ q < 0) ∨ l.length = 0) → mq 58 0 [some (.ref 1), some (.int a), some (.int p), some (.int q), none, none, none, none] [] (hS n u I A J B 53 60 L xs X) (wQ cd57 B L xs (twx 113 [some (.ref 67), some (.int a), some (.int p), some (.int q), none, none, none, none] (k + 1) n u L xs)) := fun hx => by
      refine k_58b_53 hkD of (c := l.length) lB'.1 l4 hx hn hu (Or.inr ⟨10, n, u + 6, va_up I 31 (nI 0), A, J, 60, 53, X, rfl, hn.1, by decide, by decide, ?_⟩)
      refine ⟨2, n + 1, u + 6, va_up I 31 (nI 0), A, J, B, 60, 53, _, rfl, by decide, by omega, by omega, by omega, ?_⟩
      refine k_113b (I := va_up I 31 (nI 0)) (nn := l.length) h61 l64 l4 hx ⟨nI 0, S, va_up (va_up (va_up I 31 (nI 0)) 64 (nI 0)) 60 (nI 2), A, rfl, rfl, fun q => absurd q (by decide), INV_t h ?_ (Fr_refl _ A) rfl rfl⟩
      exact Fr_u (Fr_u (Fr_u (Fr_refl _ I) (by decide)) (by decide)) (by decide)
    by_cases hl0 : l.length = 0
    · exact bad (Or.inr (Or.inr (Or.inr hl0)))
    have hl1 : 1 ≤ l.length := by omega
    rcases pk_ix a (n := 3) (by decide) with h1 | h1 | ⟨y, hy, ey⟩
    · exact bad (Or.inl (Or.inl h1))
    · exact bad (Or.inl (Or.inr h1))
    have good : (p = -1 ∨ ∃ p', p' < 8 ∧ p = nI p' ∧ ¬ q < 0) → mq 58 0 [some (.ref 1), some (.int a), some (.int p), some (.int q), none, none, none, none] [] (hS n u I A J B 53 60 L xs X) (wQ cd57 B L xs (twx 113 [some (.ref 67), some (.int a), some (.int p), some (.int q), none, none, none, none] (k + 1) n u L xs)) := fun hp => by
      subst ey
      match y, hy with
      | 0, _ => exact pr_53_0 h of hk hn hu hl1 l4 lg lB' l64 lT hp
      | 1, _ => exact pr_53_1 h of hk hn hu hl1 l4 lg lB' l64 lT hp
      | 2, _ => exact pr_53_2 h of hk hn hu hl1 l4 lg lB' l64 lT hp
    by_cases hp1 : p = -1
    · exact good (Or.inl hp1)
    rcases pk_ix p (n := 8) (by decide) with h1 | h1 | ⟨p', hp', ep'⟩
    · exact bad (Or.inr (Or.inl (Or.inl (below_m1 h1 hp1))))
    · exact bad (Or.inr (Or.inl (Or.inr h1)))
    by_cases hq : q < 0
    · exact bad (Or.inr (Or.inr (Or.inl ⟨hp1, hq⟩)))
    exact good (Or.inr ⟨p', hp', ep', hq⟩)
set_option maxRecDepth 100000 in
set_option maxHeartbeats 4000000 in
theorem op_pr_60 (h : INV k S I A 60 53) (hk : k ≤ 1000) (hn : 77 ≤ n ∧ n < 10000) (hu : u + 6 < 1000000) (a p q : Int32) : mq 58 0 [some (.ref 1), some (.int a), some (.int p), some (.int q), none, none, none, none] [] (hS n u I A J B 60 53 L xs X) (wQ cd57 B L xs (twx 113 [some (.ref 67), some (.int a), some (.int p), some (.int q), none, none, none, none] (k + 1) n u L xs)) := by
  obtain ⟨⟨k1, k2⟩, ⟨m1, m2⟩, hmk, ⟨l, l4, lg, lB, l64, lT⟩, _, _, h53, hon, hoff⟩ := id h
  have lB' : BC 3 I A l := lB
  by_cases ho : dO S = true
  · have h0 : I 0 = nI 0 := by
      rw [k1.1, ho]
      rfl
    have h61 : I 61 = nI 1 := by
      rw [m1.1, ho]
      rfl
    refine k_58x_60 h0 hn hu (Or.inr ⟨9, n, u + 6, va_up I 28 (nI 0), A, J, 53, 60, X, rfl, hn.1, by decide, by decide, ?_⟩)
    refine ⟨1, n + 1, u + 6, va_up I 28 (nI 0), A, J, B, 53, 60, _, rfl, by decide, by omega, by omega, by omega, ?_⟩
    refine k_113x (I := va_up I 28 (nI 0)) (nn := l.length) h61 l64 ⟨nI 0, S, va_up (va_up (va_up I 28 (nI 0)) 64 (nI 0)) 60 (nI 1), A, rfl, rfl, fun q => absurd q (by decide), INV_t h ?_ (Fr_refl _ A) rfl rfl⟩
    exact Fr_u (Fr_u (Fr_u (Fr_refl _ I) (by decide)) (by decide)) (by decide)
  · have of := ne_true ho
    have h61 : I 61 = nI 0 := by
      rw [m1.1, of]
      rfl
    have hkD : kD 60 S I A := kD_of of ⟨k1, k2⟩
    have bad : ((a < 0 ∨ nI 3 ≤ a) ∨ (p < -1 ∨ nI 8 ≤ p) ∨ (¬ p = -1 ∧ q < 0) ∨ l.length = 0) → mq 58 0 [some (.ref 1), some (.int a), some (.int p), some (.int q), none, none, none, none] [] (hS n u I A J B 60 53 L xs X) (wQ cd57 B L xs (twx 113 [some (.ref 67), some (.int a), some (.int p), some (.int q), none, none, none, none] (k + 1) n u L xs)) := fun hx => by
      refine k_58b_60 hkD of (c := l.length) lB'.1 l4 hx hn hu (Or.inr ⟨10, n, u + 6, va_up I 28 (nI 0), A, J, 53, 60, X, rfl, hn.1, by decide, by decide, ?_⟩)
      refine ⟨2, n + 1, u + 6, va_up I 28 (nI 0), A, J, B, 53, 60, _, rfl, by decide, by omega, by omega, by omega, ?_⟩
      refine k_113b (I := va_up I 28 (nI 0)) (nn := l.length) h61 l64 l4 hx ⟨nI 0, S, va_up (va_up (va_up I 28 (nI 0)) 64 (nI 0)) 60 (nI 2), A, rfl, rfl, fun q => absurd q (by decide), INV_t h ?_ (Fr_refl _ A) rfl rfl⟩
      exact Fr_u (Fr_u (Fr_u (Fr_refl _ I) (by decide)) (by decide)) (by decide)
    by_cases hl0 : l.length = 0
    · exact bad (Or.inr (Or.inr (Or.inr hl0)))
    have hl1 : 1 ≤ l.length := by omega
    rcases pk_ix a (n := 3) (by decide) with h1 | h1 | ⟨y, hy, ey⟩
    · exact bad (Or.inl (Or.inl h1))
    · exact bad (Or.inl (Or.inr h1))
    have good : (p = -1 ∨ ∃ p', p' < 8 ∧ p = nI p' ∧ ¬ q < 0) → mq 58 0 [some (.ref 1), some (.int a), some (.int p), some (.int q), none, none, none, none] [] (hS n u I A J B 60 53 L xs X) (wQ cd57 B L xs (twx 113 [some (.ref 67), some (.int a), some (.int p), some (.int q), none, none, none, none] (k + 1) n u L xs)) := fun hp => by
      subst ey
      match y, hy with
      | 0, _ => exact pr_60_0 h of hk hn hu hl1 l4 lg lB' l64 lT hp
      | 1, _ => exact pr_60_1 h of hk hn hu hl1 l4 lg lB' l64 lT hp
      | 2, _ => exact pr_60_2 h of hk hn hu hl1 l4 lg lB' l64 lT hp
    by_cases hp1 : p = -1
    · exact good (Or.inl hp1)
    rcases pk_ix p (n := 8) (by decide) with h1 | h1 | ⟨p', hp', ep'⟩
    · exact bad (Or.inr (Or.inl (Or.inl (below_m1 h1 hp1))))
    · exact bad (Or.inr (Or.inl (Or.inr h1)))
    by_cases hq : q < 0
    · exact bad (Or.inr (Or.inr (Or.inl ⟨hp1, hq⟩)))
    exact good (Or.inr ⟨p', hp', ep', hq⟩)
set_option maxRecDepth 100000 in
set_option maxHeartbeats 4000000 in
theorem op_produce (h : INV k S I A mk sn) (hk : k ≤ 1000) (hn : 77 ≤ n ∧ n < 10000) (hu : u + 6 < 1000000) (a p q : Int32) : mq 57 0 [some (.ref 1), some (.int a), some (.int p), some (.int q), some (.ref 76), none] [] (hS n u I A J B mk sn L xs X) (twx 113 [some (.ref 67), some (.int a), some (.int p), some (.int q), none, none, none, none] (k + 1) n u L xs) := by
  refine w_57 ?_
  rcases h.2.2.1 with ⟨e1, e2⟩ | ⟨e1, e2⟩
  · subst e1 e2
    exact op_pr_53 h hk hn hu a p q
  · subst e1 e2
    exact op_pr_60 h hk hn hu a p q
end S99b
