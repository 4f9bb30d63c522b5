/-! What holds between two calls. -/
def bi (mk : Nat) : Nat := if mk = 53 then 2 else 3
/-- the power is on: what lies on the disk is known -/
def ON (k : Nat) (S : DS) (I : Nat → Int32) (A : Nat → Nat → Int32) (F : Nat → Nat → Nat) (bc c N : Nat → Nat) : Prop :=
  WFD (dD S) F bc c N ∧ (∀ l, l < 4 → N l ≤ 4 * k) ∧ (∀ l, l < 4 → LK l (dD S) (F l) bc (c l) I A) ∧
  (∃ a : Nat → Nat → KT, ∀ l, l < 4 → KC l A (a l) ∧ KM l A (a l) ∧ ∀ p, p < 8 → (a l p).2.1 ≤ 4 ∧ (¬ (a l p).2.1 = 0 → ∃ o, o < 2 ^ 31 ∧ (a l p).2.2 = nI o)) ∧
  (∃ cc : Nat → Int32, ∀ x, x < 32 → A 1 x = cc x ∧ A 56 x = cc x + 1)
/-- the power is off: what was forgotten, but for the batch that is being made anew -/
def offK (I : Nat → Int32) (A : Nat → Nat → Int32) : Prop := I 16 = nI 0 ∧ I 11 = nI 0 ∧ (∀ k, k < 32 → A 1 k = -1) ∧ ∀ i, i < 4 → I (40 + 3 * i) = nI 0 ∧ I (41 + 3 * i) = nI 0 ∧ I (42 + 3 * i) = nI 0 ∧ ∀ p, p < 8 → A (32 + 4 * i) p = nI 0
def offM (I : Nat → Int32) (A : Nat → Nat → Int32) : Prop := I 69 = nI 0 ∧ I 70 = nI 0 ∧ (∀ k, k < 96 → A 55 k = nI 0) ∧ ∀ k, k < 32 → A 56 k = nI 0
theorem offK_of {mk : Nat} {I : Nat → Int32} {A : Nat → Nat → Int32} (h : fgK mk I A) : offK I A := h.2
theorem offM_of {I : Nat → Int32} {A : Nat → Nat → Int32} (h : fgM I A) : offM I A := h.2
/-- what holds after k calls -/
def INV (k : Nat) (S : DS) (I : Nat → Int32) (A : Nat → Nat → Int32) (mk sn : Nat) : Prop :=
  (rgK S I ∧ DK (A 0) (dD S)) ∧ (rgM S I ∧ DK (A 50) (dD S)) ∧ mks mk sn ∧
  (∃ l : List R5, l.length ≤ 4 ∧ (∀ r ∈ l, gd r) ∧ BC (bi mk) I A l ∧ I 64 = nI l.length ∧ MT 51 A l) ∧
  (∃ fl : List R5, fl.length ≤ 8 ∧ FC I A fl ∧ FM I A fl) ∧ I 11 = I 70 ∧ (A 53 4 = nI 0 ∧ A 53 16 = nI 0) ∧
  (dO S = false → ∃ F bc c N, ON k S I A F bc c N) ∧
  (dO S = true → offK I A ∧ offM I A ∧ ∃ D1 w F bc c N, ROK (dD S) D1 w ∧ WFD D1 F bc c N ∧ ∀ l, l < 4 → N l ≤ 4 * k)
def SS0 : DS := dS (fun _ => 0) none 0 false
theorem WFD_0 (F : Nat → Nat → Nat) (bc : Nat → Nat) : WFD (fun _ => 0) F bc (fun _ => 0) (fun _ => 0) := by
  refine ⟨fun l _ => ⟨⟨fun k hk => absurd hk (Nat.not_lt_zero k), fun s _ ho => ?_, fun j k _ hk => absurd hk (Nat.not_lt_zero k)⟩, fun k hk => absurd hk (Nat.not_lt_zero k), ⟨fun k hk => absurd hk (Nat.not_lt_zero _), fun k hk => absurd hk (Nat.not_lt_zero k), fun h => absurd h (Nat.lt_irrefl 0), fun _ => rfl, fun _ k hk => absurd hk (Nat.not_lt_zero k)⟩⟩, fun s _ => Nat.zero_le _⟩
  have h1 : (0 : Nat) = l + 1 := ho
  omega
theorem INV_0 {f1 f2 f3 f4 f5 : Nat → Int32} (h1 : ∀ i, i < 32 → f1 i = -1) (h2 : ∀ i, i < 8 → f2 i = nI 0) (h3 : ∀ i, i < 8 → f3 i = nI 0) (h4 : ∀ i, i < 8 → f4 i = nI 0) (h5 : ∀ i, i < 8 → f5 i = nI 0) : INV 0 SS0 I0 (A0 f1 f2 f3 f4 f5) 53 60 := by
  have hDK : DK (fun _ => nI 0) (fun _ => 0) := ⟨rfl, fun _ => Nat.lt_of_lt_of_le (Nat.zero_lt_succ 0) (by decide), fun _ _ => rfl⟩
  refine ⟨⟨⟨rfl, fun _ => rfl, rfl⟩, hDK⟩, ⟨⟨rfl, rfl, rfl⟩, hDK⟩, Or.inl ⟨rfl, rfl⟩, ⟨[], Nat.zero_le _, fun r hr => absurd hr (List.not_mem_nil), ⟨rfl, fun k hk => absurd hk (Nat.not_lt_zero k)⟩, rfl, fun k hk => absurd hk (Nat.not_lt_zero k)⟩, ⟨[], Nat.zero_le _, ⟨rfl, fun k hk => absurd hk (Nat.not_lt_zero k)⟩, ⟨rfl, fun k hk => absurd hk (Nat.not_lt_zero k)⟩⟩, rfl, ⟨rfl, rfl⟩, fun _ => ?_, fun q => Bool.noConfusion q⟩
  refine ⟨fun _ _ => 0, fun _ => 0, fun _ => 0, fun _ => 0, WFD_0 _ _, fun l _ => Nat.zero_le _, fun l hl => ?_, ⟨fun _ => a00, fun l hl => ?_⟩, ⟨fun _ => -1, fun x hx => ⟨h1 x hx, ?_⟩⟩⟩
  · match l, hl with
    | 0, _ => exact ⟨rfl, fun k hk => absurd hk (Nat.not_lt_zero k), rfl, rfl⟩
    | 1, _ => exact ⟨rfl, fun k hk => absurd hk (Nat.not_lt_zero k), rfl, rfl⟩
    | 2, _ => exact ⟨rfl, fun k hk => absurd hk (Nat.not_lt_zero k), rfl, rfl⟩
    | 3, _ => exact ⟨rfl, fun k hk => absurd hk (Nat.not_lt_zero k), rfl, rfl⟩
  · refine ⟨fun p hp => ⟨?_, fun q => absurd rfl q⟩, fun p hp => ⟨rfl, fun q => absurd rfl q⟩, fun p hp => ⟨Nat.zero_le _, fun q => absurd rfl q⟩⟩
    match l, hl with
    | 0, _ => exact h2 p hp
    | 1, _ => exact h3 p hp
    | 2, _ => exact h4 p hp
    | 3, _ => exact h5 p hp
  · show nI 0 = (-1 : Int32) + 1
    decide
