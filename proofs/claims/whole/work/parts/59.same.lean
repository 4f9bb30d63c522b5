/-! What reads the same bytes reads the same. -/
theorem vL_pos (D : Nat → Nat) (f q : Nat) : 1 ≤ vL D (f + 1) q := by
  show 1 ≤ (if D q < 128 then 1 else 1 + vL D f (q + 1))
  split <;> omega
theorem v_same {D D' : Nat → Nat} : ∀ f q, (∀ i, i < vL D f q → D' (q + i) = D (q + i)) → vL D' f q = vL D f q ∧ ∀ s x, vX D' f q s x = vX D f q s x
  | 0, _, _ => ⟨rfl, fun _ _ => rfl⟩
  | f + 1, q, h => by
    have h0 : D' q = D q := h 0 (vL_pos D f q)
    by_cases hq : D q < 128
    · refine ⟨?_, fun s x => ?_⟩
      · show (if D' q < 128 then 1 else _) = (if D q < 128 then 1 else _)
        rw [h0, if_pos hq, if_pos hq]
      · show (if D' q < 128 then x ||| ((nI (D' q) &&& 127) <<< (nI s &&& 31)) else _) = (if D q < 128 then _ else _)
        rw [h0, if_pos hq, if_pos hq]
    · have e : vL D (f + 1) q = 1 + vL D f (q + 1) := if_neg hq
      have ih := v_same (D := D) (D' := D') f (q + 1) (fun i hi => by
        have h1 := h (i + 1) (by omega)
        rw [show q + 1 + i = q + (i + 1) by omega]
        exact h1)
      refine ⟨?_, fun s x => ?_⟩
      · show (if D' q < 128 then 1 else 1 + vL D' f (q + 1)) = (if D q < 128 then 1 else 1 + vL D f (q + 1))
        rw [h0, if_neg hq, if_neg hq, ih.1]
      · show (if D' q < 128 then _ else vX D' f (q + 1) (s + 7) (x ||| ((nI (D' q) &&& 127) <<< (nI s &&& 31)))) = (if D q < 128 then _ else vX D f (q + 1) (s + 7) (x ||| ((nI (D q) &&& 127) <<< (nI s &&& 31))))
        rw [h0, if_neg hq, if_neg hq, ih.2]
theorem V_same {D D' : Nat → Nat} {q : Nat} (h : ∀ i, i < lV D q → D' (q + i) = D (q + i)) : lV D' q = lV D q ∧ rV D' q = rV D q := ⟨(v_same 5 q h).1, (v_same 5 q h).2 0 0⟩
theorem r_same {D D' : Nat → Nat} {q : Nat} (h : ∀ i, i < rl D q → D' (q + i) = D (q + i)) : rl D' q = rl D q ∧ rO D' q = rO D q ∧ rT D' q = rT D q ∧ rK D' q = rK D q ∧ rW D' q = rW D q ∧ rDl D' q = rDl D q := by
  have l3 : rl3 D q < rl D q := by
    unfold rl
    split <;> omega
  have l2 : rl2 D q ≤ rl3 D q := Nat.le_add_right _ _
  have l1 : rl1 D q ≤ rl2 D q := Nat.le_add_right _ _
  have v1 := V_same (D := D) (D' := D') (q := q) (fun i hi => h i (by have : i < rl1 D q := hi; omega))
  have e1 : rl1 D' q = rl1 D q := v1.1
  have v2 := V_same (D := D) (D' := D') (q := q + rl1 D q) (fun i hi => by
    have hi' : rl1 D q + i < rl2 D q := by
      unfold rl2
      omega
    rw [Nat.add_assoc]
    exact h _ (by omega))
  have e2 : rl2 D' q = rl2 D q := by
    unfold rl2
    rw [e1, v2.1]
  have v3 := V_same (D := D) (D' := D') (q := q + rl2 D q) (fun i hi => by
    have hi' : rl2 D q + i < rl3 D q := by
      unfold rl3
      omega
    rw [Nat.add_assoc]
    exact h _ (by omega))
  have e3 : rl3 D' q = rl3 D q := by
    unfold rl3
    rw [e2, v3.1]
  have e4 : rDl D' q = rDl D q := by
    unfold rDl
    rw [e3]
    exact h _ l3
  by_cases hd : rDl D q = 0
  · have el : rl D q = rl3 D q + 1 + lV D (q + rl3 D q + 1) := if_pos hd
    have v4 := V_same (D := D) (D' := D') (q := q + rl3 D q + 1) (fun i hi => by
      rw [Nat.add_assoc, Nat.add_assoc]
      exact h _ (by omega))
    refine ⟨?_, v1.2, ?_, ?_, ?_, e4⟩
    · unfold rl
      rw [e4, if_pos hd, if_pos hd, e3, v4.1]
    · unfold rT
      rw [e1, v2.2]
    · unfold rK
      rw [e2, v3.2]
    · unfold rW
      rw [e4, if_pos hd, if_pos hd, e3, v4.2]
  · refine ⟨?_, v1.2, ?_, ?_, ?_, e4⟩
    · unfold rl
      rw [e4, if_neg hd, if_neg hd, e3]
    · unfold rT
      rw [e1, v2.2]
    · unfold rK
      rw [e2, v3.2]
    · unfold rW
      rw [e4, if_neg hd, if_neg hd]
theorem rq_mo (D : Nat → Nat) (q : Nat) {i j : Nat} (h : i ≤ j) : rq D q i ≤ rq D q j := by
  induction h with
  | refl => exact Nat.le_refl _
  | step h ih => exact Nat.le_trans ih (Nat.le_add_right _ _)
/-- the batches at q in D and D' are the same -/
def SB (D D' : Nat → Nat) (q : Nat) : Prop := nb D' q = nb D q ∧ bN D' q = bN D q ∧ bP D' q = bP D q ∧ bS D' q = bS D q ∧ rq D' q (bN D q) = rq D q (bN D q) ∧ ∀ b k, k < bN D q → r5 D' b q k = r5 D b q k ∧ dR D' q k = dR D q k
theorem b_same {D D' : Nat → Nat} {q : Nat} (h : WB D q) (e : ∀ j, q ≤ j → j < nb D q → D' j = D j) : SB D D' q := by
  have hr0 : rq D q 0 ≤ nb D q := by
    rw [← h.2.2.2]
    exact rq_mo D q (Nat.zero_le _)
  have r0 : rq D q 0 = bp5 D q + 1 := rfl
  have p2 : bp2 D q = q + 1 + lV D (q + 1) := rfl
  have p3 : bp3 D q = bp2 D q + lV D (bp2 D q) := rfl
  have p5 : bp5 D q = bp3 D q + 1 + lV D (bp3 D q + 1) := rfl
  have eq0 : D' q = D q := e q (Nat.le_refl _) (by omega)
  have v1 := V_same (D := D) (D' := D') (q := q + 1) (fun i hi => e _ (by omega) (by omega))
  have e2 : bp2 D' q = bp2 D q := by
    unfold bp2
    rw [v1.1]
  have v2 := V_same (D := D) (D' := D') (q := bp2 D q) (fun i hi => e _ (by omega) (by omega))
  have e3 : bp3 D' q = bp3 D q := by
    unfold bp3
    rw [e2, v2.1]
  have v3 := V_same (D := D) (D' := D') (q := bp3 D q + 1) (fun i hi => e _ (by omega) (by omega))
  have e5 : bp5 D' q = bp5 D q := by
    unfold bp5
    rw [e3, v3.1]
  have eN : bN D' q = bN D q := by
    unfold bN
    rw [e5]
    exact e _ (by omega) (by omega)
  have hrec : ∀ k, k < bN D q → rl D' (rq D q k) = rl D (rq D q k) ∧ rO D' (rq D q k) = rO D (rq D q k) ∧ rT D' (rq D q k) = rT D (rq D q k) ∧ rK D' (rq D q k) = rK D (rq D q k) ∧ rW D' (rq D q k) = rW D (rq D q k) ∧ rDl D' (rq D q k) = rDl D (rq D q k) := by
    intro k hk
    have h1 := rq_mo D q (show k + 1 ≤ bN D q from hk)
    have h2 : rq D q (k + 1) = rq D q k + rl D (rq D q k) := rfl
    have h3 := rq_mo D q (Nat.zero_le k)
    rw [h.2.2.2] at h1
    exact r_same (fun i hi => e _ (by omega) (by omega))
  have hrq : ∀ k, k ≤ bN D q → rq D' q k = rq D q k := by
    intro k
    induction k with
    | zero =>
      intro _
      show bp5 D' q + 1 = bp5 D q + 1
      rw [e5]
    | succ k ih =>
      intro hk
      show rq D' q k + rl D' (rq D' q k) = rq D q k + rl D (rq D q k)
      rw [ih (by omega), (hrec k (by omega)).1]
  have eT : bT D' q = bT D q := by
    unfold bT
    rw [e2, v2.2]
  refine ⟨?_, eN, ?_, ?_, hrq _ (Nat.le_refl _), fun b k hk => ?_⟩
  · unfold nb
    rw [eq0]
  · unfold bP
    rw [e3]
    exact e _ (by omega) (by omega)
  · unfold bS
    rw [e3, v3.2]
  · have h4 := hrec k hk
    have h5 := hrq k (by omega)
    unfold r5 oR tR kR vR dR bO
    rw [h5, h4.2.1, h4.2.2.1, h4.2.2.2.1, h4.2.2.2.2.1, h4.2.2.2.2.2, eT, v1.2]
    exact ⟨rfl, rfl⟩
theorem SB_WB {D D' : Nat → Nat} {q : Nat} (h : WB D q) (s : SB D D' q) : WB D' q := by
  refine ⟨by rw [s.2.1]; exact h.1, by rw [s.2.1]; exact h.2.1, fun i hi => ?_, ?_⟩
  · rw [s.2.1] at hi
    rw [(s.2.2.2.2.2 0 i hi).2]
    exact h.2.2.1 i hi
  · rw [s.2.1, s.1, s.2.2.2.2.1]
    exact h.2.2.2
/-- the rows of batches are the same, up to c -/
theorem s_same {D D' : Nat → Nat} {s c : Nat} (h : WS D s c) (e : ∀ i, 8 ≤ i → i < mB D s → D' (128 * s + i) = D (128 * s + i)) : (∀ i, i ≤ c → sb D' s i = sb D s i) ∧ ∀ i, i < c → SB D D' (sb D s i) := by
  have hb : ∀ i, i < c → SB D D' (sb D s i) := fun i hi => by
    have h1 := WS_in h hi
    have h2 : nb D (sb D s i) = sb D s (i + 1) := rfl
    refine b_same (WS_b h hi) (fun j hj1 hj2 => ?_)
    have h3 := e (j - 128 * s) (by omega) (by omega)
    rw [show 128 * s + (j - 128 * s) = j by omega] at h3
    exact h3
  refine ⟨fun i => ?_, hb⟩
  induction i with
  | zero => exact fun _ => rfl
  | succ i ih =>
    intro hi
    show nb D' (sb D' s i) = nb D (sb D s i)
    rw [ih (by omega), (hb i (by omega)).1]
theorem WS_same {D D' : Nat → Nat} {s c : Nat} (h : WS D s c) (e : ∀ i, 8 ≤ i → i < mB D s → D' (128 * s + i) = D (128 * s + i)) (em : mB D' s = mB D s) : WS D' s c := by
  have hs := s_same h e
  refine ⟨by rw [em]; exact h.1, ?_, fun i hi => ?_⟩
  · rw [em]
    exact (hs.1 c (Nat.le_refl _)).trans h.2.1
  · have h1 : WB D' (sb D' s i) := by
      rw [hs.1 i (by omega)]
      exact SB_WB (WS_b h hi) (hs.2 i hi)
    exact h1
/-- rows of records, one after the other -/
def mp (g : Nat → R5) : Nat → List R5
  | 0 => []
  | k + 1 => mp g k ++ [g k]
def fl (g : Nat → List R5) : Nat → List R5
  | 0 => []
  | k + 1 => fl g k ++ g k
theorem mp_same {g g' : Nat → R5} : ∀ {n : Nat}, (∀ k, k < n → g k = g' k) → mp g n = mp g' n
  | 0, _ => rfl
  | n + 1, h => by
    show mp g n ++ [g n] = mp g' n ++ [g' n]
    rw [mp_same (fun k hk => h k (by omega)), h n (by omega)]
theorem fl_same {g g' : Nat → List R5} : ∀ {n : Nat}, (∀ k, k < n → g k = g' k) → fl g n = fl g' n
  | 0, _ => rfl
  | n + 1, h => by
    show fl g n ++ g n = fl g' n ++ g' n
    rw [fl_same (fun k hk => h k (by omega)), h n (by omega)]
theorem mp_len (g : Nat → R5) : ∀ n, (mp g n).length = n
  | 0 => rfl
  | n + 1 => by
    show (mp g n ++ [g n]).length = n + 1
    rw [List.length_append, mp_len g n]
    rfl
theorem mp_mem {g : Nat → R5} {r : R5} : ∀ {n : Nat}, r ∈ mp g n → ∃ k, k < n ∧ r = g k
  | 0, h => absurd h (List.not_mem_nil)
  | n + 1, h => by
    rcases List.mem_append.mp (show r ∈ mp g n ++ [g n] from h) with h1 | h1
    · obtain ⟨k, hk, e⟩ := mp_mem h1
      exact ⟨k, by omega, e⟩
    · exact ⟨n, by omega, List.mem_singleton.mp h1⟩
theorem mp_in (g : Nat → R5) : ∀ {n k : Nat}, k < n → g k ∈ mp g n
  | 0, k, h => absurd h (Nat.not_lt_zero k)
  | n + 1, k, h => by
    show g k ∈ mp g n ++ [g n]
    by_cases hk : k = n
    · rw [hk]
      exact List.mem_append_right _ (List.mem_singleton.mpr rfl)
    · exact List.mem_append_left _ (mp_in g (by omega))
theorem fl_mem {g : Nat → List R5} {r : R5} : ∀ {n : Nat}, r ∈ fl g n → ∃ k, k < n ∧ r ∈ g k
  | 0, h => absurd h (List.not_mem_nil)
  | n + 1, h => by
    rcases List.mem_append.mp (show r ∈ fl g n ++ g n from h) with h1 | h1
    · obtain ⟨k, hk, e⟩ := fl_mem h1
      exact ⟨k, by omega, e⟩
    · exact ⟨n, by omega, h1⟩
theorem fl_in {g : Nat → List R5} {r : R5} : ∀ {n k : Nat}, k < n → r ∈ g k → r ∈ fl g n
  | 0, k, h, _ => absurd h (Nat.not_lt_zero k)
  | n + 1, k, h, hr => by
    show r ∈ fl g n ++ g n
    by_cases hk : k = n
    · rw [← hk]
      exact List.mem_append_right _ hr
    · exact List.mem_append_left _ (fl_in (by omega) hr)
/-- the records of a batch, of a slot -/
def bRs (D : Nat → Nat) (b q : Nat) : List R5 := mp (r5 D b q) (bN D q)
def sRs (D : Nat → Nat) (s c : Nat) : List R5 := fl (fun i => bRs D (bB D s) (sb D s i)) c
theorem SB_bRs {D D' : Nat → Nat} {b q : Nat} (h : SB D D' q) : bRs D' b q = bRs D b q := by
  unfold bRs
  rw [h.2.1]
  exact mp_same (fun k hk => (h.2.2.2.2.2 b k hk).1)
theorem sRs_same {D D' : Nat → Nat} {s c : Nat} (h : WS D s c) (e : ∀ i, 8 ≤ i → i < mB D s → D' (128 * s + i) = D (128 * s + i)) (eb : bB D' s = bB D s) : sRs D' s c = sRs D s c := by
  have hs := s_same h e
  unfold sRs
  rw [eb]
  exact fl_same (fun i hi => by
    show bRs D' (bB D s) (sb D' s i) = bRs D (bB D s) (sb D s i)
    rw [hs.1 i (by omega)]
    exact SB_bRs (hs.2 i hi))
theorem sRs_succ (D : Nat → Nat) (s c : Nat) : sRs D s (c + 1) = sRs D s c ++ bRs D (bB D s) (sb D s c) := rfl
/-- the head of a slot is as it was -/
theorem hd_same {D D' : Nat → Nat} {s : Nat} (e : ∀ i, i < 8 → ¬ i = 2 → ¬ i = 3 → D' (128 * s + i) = D (128 * s + i)) : mB D' s = mB D s ∧ bB D' s = bB D s := by
  have h0 : D' (128 * s) = D (128 * s) := e 0 (by decide) (by decide) (by decide)
  have h1 := e 1 (by decide) (by decide) (by decide)
  have h4 := e 4 (by decide) (by decide) (by decide)
  have h5 := e 5 (by decide) (by decide) (by decide)
  have h6 := e 6 (by decide) (by decide) (by decide)
  have h7 := e 7 (by decide) (by decide) (by decide)
  unfold mB bB
  rw [h0, h1, h4, h5, h6, h7]
  exact ⟨rfl, rfl⟩
/-- an owner's byte written -/
theorem ow_o {D : Nat → Nat} {s v t : Nat} (g : Nat → Nat) (hg : g 0 = v) : oB (dW D (128 * s + 2) 1 g) t = if t = s then v else oB D t := by
  unfold oB
  by_cases h : t = s
  · rw [if_pos h, h, ← hg]
    exact dW_in (i := 0) (by decide)
  · rw [if_neg h]
    exact dW_out (by omega)
theorem ow_x {D : Nat → Nat} {s t i : Nat} (g : Nat → Nat) (hi : i < 128) (h2 : ¬ i = 2) : dW D (128 * s + 2) 1 g (128 * t + i) = D (128 * t + i) := dW_out (by omega)
theorem ow_hd {D : Nat → Nat} {s t : Nat} (g : Nat → Nat) : mB (dW D (128 * s + 2) 1 g) t = mB D t ∧ bB (dW D (128 * s + 2) 1 g) t = bB D t := hd_same (fun _ hi h2 _ => ow_x g (by omega) h2)
theorem ow_WS {D : Nat → Nat} {s t c : Nat} (g : Nat → Nat) (h : WS D t c) : WS (dW D (128 * s + 2) 1 g) t c := WS_same h (fun i h8 hi => ow_x g (by have := h.1; omega) (by omega)) (ow_hd g).1
theorem ow_sRs {D : Nat → Nat} {s t c : Nat} (g : Nat → Nat) (h : WS D t c) : sRs (dW D (128 * s + 2) 1 g) t c = sRs D t c := sRs_same h (fun i h8 hi => ow_x g (by have := h.1; omega) (by omega)) (ow_hd g).2
/-- the first segment lets go of its slot -/
theorem SG_tl {D : Nat → Nat} {l n : Nat} {f : Nat → Nat} (g : Nat → Nat) (hg : g 0 = 0) (h : SG D l f n) (hn : 0 < n) : SG (dW D (128 * f 0 + 2) 1 g) l (fun k => f (k + 1)) (n - 1) := by
  refine ⟨fun k hk => ?_, fun s hs ho => ?_, fun j k hj hk => ?_⟩
  · have h1 := h.1 (k + 1) (by omega)
    have h2 := SG_ne h (Nat.succ_pos k) (show k + 1 < n by omega)
    rw [ow_o g hg, (ow_hd g).2, if_neg (fun q => h2 q.symm)]
    exact h1
  · rw [ow_o g hg] at ho
    by_cases hs0 : s = f 0
    · rw [if_pos hs0] at ho
      omega
    · rw [if_neg hs0] at ho
      obtain ⟨k, hk, e⟩ := h.2.1 s hs ho
      cases k with
      | zero => exact absurd e.symm hs0
      | succ k => exact ⟨k, by omega, e⟩
  · rw [(ow_hd g).2, (ow_hd g).2]
    exact h.2.2 (j + 1) (k + 1) (by omega) (by omega)
theorem SG_oth {D : Nat → Nat} {l n s v : Nat} {f : Nat → Nat} (g : Nat → Nat) (hg : g 0 = v) (h : SG D l f n) (ho : ¬ oB D s = l + 1) (hv : ¬ v = l + 1) : SG (dW D (128 * s + 2) 1 g) l f n := by
  have hne : ∀ t, oB D t = l + 1 → ¬ t = s := fun t h1 h2 => ho (h2 ▸ h1)
  refine ⟨fun k hk => ?_, fun t ht hto => ?_, fun j k hj hk => ?_⟩
  · have h1 := h.1 k hk
    rw [ow_o g hg, (ow_hd g).2, if_neg (hne _ h1.2.1)]
    exact h1
  · rw [ow_o g hg] at hto
    by_cases hs0 : t = s
    · rw [if_pos hs0] at hto
      exact absurd hto hv
    · rw [if_neg hs0] at hto
      exact h.2.1 t ht hto
  · rw [(ow_hd g).2, (ow_hd g).2]
    exact h.2.2 j k hj hk
