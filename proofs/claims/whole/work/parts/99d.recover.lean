/-! recover makes all hold again. -/
theorem WFD_HB {D : Nat → Nat} {F : Nat → Nat → Nat} {bc c N : Nat → Nat} (h : WFD D F bc c N) : HB D := fun s hs ho => by
  have h4 := h.2 s hs
  obtain ⟨k, hk, e⟩ := (h.1 (oB D s - 1) (by omega)).1.2.1 s hs (by omega)
  have h1 := ((h.1 (oB D s - 1) (by omega)).1.1 k hk).2.2
  rw [e] at h1
  exact h1
theorem ROK_HB {D D1 : Nat → Nat} {w : Nat} {F : Nat → Nat → Nat} {bc c N : Nat → Nat} (hr : ROK D D1 w) (h : WFD D1 F bc c N) : HB D := by
  rcases hr with ⟨e, _⟩ | ⟨r, o, ht, e, _⟩
  · rw [← e]
    exact WFD_HB h
  · have h1 := WFD_HB h
    rw [e] at h1
    have h2 : ∀ s, s < 16 → ¬ s = o → ¬ oB D s = 0 → bB D s < 2 ^ 31 := fun s hs hso ho => by
      have h3 := h1 s hs (by rw [ow0_o, if_neg hso]; exact ho)
      rw [ow0_b] at h3
      exact h3
    intro s hs ho
    by_cases es : s = o
    · rw [es, ← ht.2.2.2.2.2.1]
      exact h2 r ht.1 ht.2.2.1 ht.2.2.2.1
    · exact h2 s hs es ho
theorem WL_off {D : Nat → Nat} {l n N : Nat} {f bc : Nat → Nat} (h : WL D l f bc n N) (hN : N < 2 ^ 31) : ∀ k, k < n → ∀ r, r ∈ sRs D (f k) (bc (f k)) → ∃ o, o < 2 ^ 31 ∧ r.1 = nI o := fun k hk r hr => by
  obtain ⟨o, eo, h1, h2⟩ := Asc_mem (h.2.2.2.1 k hk) hr
  refine ⟨o, ?_, eo⟩
  split at h2
  · rename_i h3
    have h4 := (h.1.1 (k + 1) h3).2.2
    have h2' : o < bB D (f (k + 1)) := h2
    omega
  · omega
def Gok (a : Nat → KT) : Prop := ∀ p, (a p).2.1 ≤ 4 ∧ (¬ (a p).2.1 = 0 → ∃ o, o < 2 ^ 31 ∧ (a p).2.2 = nI o)
theorem lnS_ok {D : Nat → Nat} {s : Nat} : ∀ (z j : Nat) {a : Nat → KT}, (∀ i, j ≤ i → i < j + z → bN D (sb D s i) ≤ 4 ∧ ∃ o, o < 2 ^ 31 ∧ oR D (bB D s) (sb D s i) 0 = nI o) → Gok a → Gok (lnS D s z j a)
  | 0, _, _, _, h => h
  | z + 1, j, a, hb, h => by
    refine lnS_ok z (j + 1) (fun i h1 h2 => hb i (by omega) (by omega)) (fun p => ?_)
    unfold ln1
    by_cases e : bP D (sb D s j) < 8 ∧ p = bP D (sb D s j)
    · rw [if_pos e]
      have h1 := hb j (Nat.le_refl _) (by omega)
      exact ⟨h1.1, fun _ => h1.2⟩
    · rw [if_neg e]
      exact h p
theorem lnL_ok {D : Nat → Nat} {f bc : Nat → Nat} : ∀ (z k : Nat) {a : Nat → KT}, (∀ i, k ≤ i → i < k + z → ∀ j, j < bc (f i) → bN D (sb D (f i) j) ≤ 4 ∧ ∃ o, o < 2 ^ 31 ∧ oR D (bB D (f i)) (sb D (f i) j) 0 = nI o) → Gok a → Gok (lnL D f bc z k a)
  | 0, _, _, _, h => h
  | z + 1, k, a, hb, h => lnL_ok z (k + 1) (fun i h1 h2 => hb i (by omega) (by omega)) (lnS_ok _ _ (fun j _ h2 => hb k (Nat.le_refl _) (by omega) j (by omega)) h)
theorem WL_Gok {D : Nat → Nat} {l n N : Nat} {f bc : Nat → Nat} (h : WL D l f bc n N) (hN : N < 2 ^ 31) : Gok (lnL D f bc n 0 a00) := by
  refine lnL_ok n 0 (fun i _ hi j hj => ?_) (fun p => ⟨Nat.zero_le _, fun q => absurd rfl q⟩)
  have hW : WB D (sb D (f i) j) := (h.2.1 i (by omega)).2.2 j hj
  refine ⟨hW.2.1, ?_⟩
  have h1 := hW.1
  exact WL_off h hN i (by omega) (r5 D (bB D (f i)) (sb D (f i) j) 0) (fl_in hj (mp_in _ (by omega)))
section S99d
variable {n u : Nat} {I : Nat → Int32} {A : Nat → Nat → Int32} {J : Int64} {B : Nat → Int64} {mk sn L : Nat} {xs : Nat → Int32} {X : Nat → mC} {D : Nat → Nat} {S : DS} {k : Nat}
set_option maxRecDepth 100000 in
set_option maxHeartbeats 4000000 in
theorem op_recover (h : INV k S I A mk sn) (hk : k ≤ 1000) (hn : 77 ≤ n ∧ n < 10000) (hu : u + 6 < 1000000) : mq 16 0 [some (.ref 1), none, none, none] [] (hS n u I A J B mk sn L xs X) (two 154 [some (.ref 67), none, none, none, none] (k + 1) n u J B L xs X) := by
  obtain ⟨⟨k1, k2⟩, ⟨m1, m2⟩, hmk, _, _, _, h53, hon, hoff⟩ := h
  have hd : ∃ D1 w F bc c N, ROK (dD S) D1 w ∧ WFD D1 F bc c N ∧ ∀ l, l < 4 → N l ≤ 4 * k := by
    by_cases ho : dO S = true
    · exact (hoff ho).2.2
    · obtain ⟨F, bc, c, N, hW, hNk, _⟩ := hon (ne_true ho)
      exact ⟨dD S, 0, F, bc, c, N, Or.inl ⟨rfl, rfl⟩, hW, hNk⟩
  obtain ⟨D1, w, F, bc, c, N, hr, hW, hNk⟩ := hd
  have hB := ROK_HB hr hW
  obtain ⟨r1, r2, r3⟩ := rec_same (S := S00 S) ⟨rfl, rfl⟩ k2.2.1 hW hr
  obtain ⟨S1, hS1⟩ : ∃ S1, S1 = dtA 16 0 (S00 S) := ⟨_, rfl⟩
  have hS2 : S1 = mtA 16 0 (S00 S) := hS1.trans r1
  rw [← hS1] at r2 r3
  have hW1 : WFD (dD S1) F bc c N := by
    rw [r2]
    exact hW
  refine k_16 (S := S) (F := F) (bc := bc) (c := c) (N := N) k1.2.2 k2 hmk hn hu hB (by rw [← hS1]; exact hW1.1) (by rw [← hS1]; exact hW1.2) ?_
  rw [← hS1]
  intro I1 A1 f1 g1 hk1 ecb e16 e11 hLK hKC hcm
  refine ⟨_, I1, A1, mk, sn, rfl, ?_⟩
  refine k_154 (S := S) (F := F) (bc := bc) (c := c) (N := N) ((f1 62 (by decide)).trans m1.2.2) (by rw [g1 50 (by decide)]; exact m2) hB (by rw [← hS2]; exact hW1.1) ?_
  rw [← hS2]
  intro I2 A2 f2 g2 hm2 e60 e64 e69 e70 hKM hCM
  have fL : Lo 60 I1 I2 := Lo_fr f2 (by decide)
  have gL : Lo 50 A1 A2 := Lo_fr g2 (by decide)
  have hcb : cb mk < 60 := by
    unfold cb
    split <;> decide
  refine ⟨S1, I2, A2, rfl, ⟨rgK_lo hk1.1 fL, by rw [gL 0 (by decide)]; exact hk1.2.1⟩, ⟨hm2.1, hm2.2.1⟩, hmk, ⟨[], Nat.zero_le _, fun r hr => absurd hr (List.not_mem_nil), BC_nil hmk ((fL _ hcb).trans ecb), e64, fun k hk => absurd hk (Nat.not_lt_zero k)⟩, ⟨[], Nat.zero_le _, ⟨(fL 16 (by decide)).trans e16, fun k hk => absurd hk (Nat.not_lt_zero k)⟩, ⟨e69, fun k hk => absurd hk (Nat.not_lt_zero k)⟩⟩, ((fL 11 (by decide)).trans e11).trans e70.symm, ⟨by rw [g2 53 (by decide), g1 53 (by decide)]; exact h53.1, by rw [g2 53 (by decide), g1 53 (by decide)]; exact h53.2⟩, fun _ => ⟨F, bc, c, N, hW1, fun l hl => by have := hNk l hl; omega, fun l hl => LK_fr (hLK l hl) f2 g2 ?_ ?_, ⟨fun l => lnL (dD S1) (F l) bc (c l) 0 a00, fun l hl => ⟨KC_fr (hKC l hl) g2 ?_, hKM l hl, fun p _ => WL_Gok (hW1.1 l hl) (by have := hNk l hl; omega) p⟩⟩, ⟨cmL (dD S1) (F 3) bc (c 3) 0 (fun _ => -1), fun x hx => ⟨by rw [gL 1 (by decide)]; exact hcm x hx, hCM x hx⟩⟩⟩, fun q => by rw [r3.1] at q; exact Bool.noConfusion q⟩
  · refine ⟨?_, ?_, ?_⟩ <;> (simp only [List.mem_cons, List.not_mem_nil, or_false]; omega)
  · simp only [List.mem_cons, List.not_mem_nil, or_false]
    omega
  · refine ⟨?_, ?_, ?_⟩ <;> (simp only [List.mem_cons, List.not_mem_nil, or_false]; omega)
end S99d
