/-! A log as rows of records. -/
/-- offsets that rise, from lo on, below hi -/
def Asc : Nat → Nat → List R5 → Prop
  | lo, hi, [] => lo ≤ hi
  | lo, hi, r :: t => ∃ o, r.1 = nI o ∧ lo ≤ o ∧ o < hi ∧ Asc (o + 1) hi t
theorem Asc_le : ∀ {l : List R5} {lo hi : Nat}, Asc lo hi l → lo ≤ hi
  | [], _, _, h => h
  | _ :: _, _, _, ⟨_, _, h1, h2, _⟩ => by omega
theorem Asc_lo : ∀ {l : List R5} {lo lo' hi : Nat}, lo' ≤ lo → Asc lo hi l → Asc lo' hi l
  | [], _, _, _, h, h1 => Nat.le_trans h h1
  | _ :: _, _, _, _, h, ⟨o, e, h1, h2, h3⟩ => ⟨o, e, by omega, h2, h3⟩
theorem Asc_hi : ∀ {l : List R5} {lo hi hi' : Nat}, hi ≤ hi' → Asc lo hi l → Asc lo hi' l
  | [], _, _, _, h, h1 => Nat.le_trans h1 h
  | _ :: t, _, _, _, h, ⟨o, e, h1, h2, h3⟩ => ⟨o, e, h1, by omega, Asc_hi h h3⟩
theorem Asc_app : ∀ {a b : List R5} {lo m hi : Nat}, Asc lo m a → Asc m hi b → Asc lo hi (a ++ b)
  | [], _, _, _, _, h, h1 => Asc_lo h h1
  | _ :: t, _, _, _, _, ⟨o, e, h1, h2, h3⟩, h4 => ⟨o, e, h1, by have := Asc_le h4; omega, Asc_app h3 h4⟩
theorem Asc_sub {a b : List R5} (h : List.Sublist a b) : ∀ {lo hi : Nat}, Asc lo hi b → Asc lo hi a := by
  induction h with
  | slnil => exact fun h => h
  | cons x _ ih =>
    intro lo hi h
    obtain ⟨o, e, h1, h2, h3⟩ := h
    exact Asc_lo (by omega) (ih h3)
  | cons_cons x _ ih =>
    intro lo hi h
    obtain ⟨o, e, h1, h2, h3⟩ := h
    exact ⟨o, e, h1, h2, ih h3⟩
theorem Asc_mem : ∀ {l : List R5} {lo hi : Nat} {r : R5}, Asc lo hi l → r ∈ l → ∃ o, r.1 = nI o ∧ lo ≤ o ∧ o < hi
  | [], _, _, _, _, h => absurd h (List.not_mem_nil)
  | x :: t, _, _, r, ⟨o, e, h1, h2, h3⟩, h => by
    rcases List.mem_cons.mp h with h4 | h4
    · exact ⟨o, h4 ▸ e, h1, h2⟩
    · obtain ⟨o', e', h5, h6⟩ := Asc_mem h3 h4
      exact ⟨o', e', by omega, h6⟩
theorem Asc_num : ∀ {l : List R5} {N : Nat}, (∀ k, k < l.length → (gR l k).1 = nI (N + k)) → Asc N (N + l.length) l
  | [], _, _ => Nat.le_refl _
  | x :: t, N, h => by
    refine ⟨N, h 0 (Nat.zero_lt_succ _), Nat.le_refl _, by rw [List.length_cons]; omega, ?_⟩
    have h1 := Asc_num (l := t) (N := N + 1) (fun k hk => by
      have h2 := h (k + 1) (Nat.succ_lt_succ hk)
      rw [show N + (k + 1) = N + 1 + k by omega] at h2
      exact h2)
    rw [List.length_cons, show N + (t.length + 1) = N + 1 + t.length by omega]
    exact h1
/-- the offset behind a row of records -/
def lastN : Nat → List R5 → Nat
  | b, [] => b
  | _, r :: t => lastN (uN r.1 + 1) t
theorem lastN_app : ∀ (a : List R5) (b : Nat) (r : R5), lastN b (a ++ [r]) = uN r.1 + 1
  | [], _, _ => rfl
  | x :: t, _, r => lastN_app t (uN x.1 + 1) r
theorem lastN_le : ∀ {l : List R5} {lo hi : Nat}, hi < 2 ^ 32 → Asc lo hi l → lastN lo l ≤ hi ∧ Asc lo (lastN lo l) l
  | [], _, _, _, h => ⟨h, Nat.le_refl _⟩
  | x :: t, lo, hi, hh, ⟨o, e, h1, h2, h3⟩ => by
    have e1 : uN x.1 = o := by
      rw [e]
      exact uN_nI (by omega)
    have h4 := lastN_le hh h3
    have h5 := Asc_le h4.2
    show lastN (uN x.1 + 1) t ≤ hi ∧ ∃ o', x.1 = nI o' ∧ lo ≤ o' ∧ o' < lastN (uN x.1 + 1) t ∧ Asc (o' + 1) (lastN (uN x.1 + 1) t) t
    rw [e1]
    exact ⟨h4.1, o, e, h1, by omega, h4.2⟩
theorem lastN_num : ∀ {l : List R5} {N b : Nat}, N + l.length < 2 ^ 32 → (∀ k, k < l.length → (gR l k).1 = nI (N + k)) → 0 < l.length → lastN b l = N + l.length
  | [], _, _, _, _, h => absurd h (Nat.lt_irrefl 0)
  | x :: t, N, b, hh, h, _ => by
    rw [List.length_cons] at hh
    have e1 : uN x.1 = N := by
      rw [show x.1 = nI (N + 0) from h 0 (Nat.zero_lt_succ _)]
      exact uN_nI (by omega)
    show lastN (uN x.1 + 1) t = N + (t.length + 1)
    rw [e1]
    rcases Nat.eq_zero_or_pos t.length with h0 | h0
    · have : t = [] := List.length_eq_zero_iff.mp h0
      subst this
      rfl
    · rw [lastN_num (l := t) (N := N + 1) (b := N + 1) (by omega) (fun k hk => by
        have h2 := h (k + 1) (Nat.succ_lt_succ hk)
        rw [show N + (k + 1) = N + 1 + k by omega] at h2
        exact h2) h0]
      omega
/-- the rows of a log's segments, in order: bases, records, next offset -/
def LO (l : Nat) (ba : Nat → Nat) (rs : Nat → List R5) (n N : Nat) : Prop := (∀ k, k + 1 < n → ¬ rs k = []) ∧ (∀ k, k < n → Asc (ba k) (if k + 1 < n then ba (k + 1) else N) (rs k)) ∧ (0 < n → N = lastN (ba (n - 1)) (rs (n - 1))) ∧ (n = 0 → N = 0) ∧ (l = 3 → ∀ k, k < n → ∀ r ∈ rs k, ∃ q, q < 32 ∧ r.2.2.1 = nI q)
theorem LO_ext {l n N : Nat} {ba ba' : Nat → Nat} {rs rs' : Nat → List R5} (h : LO l ba rs n N) (hb : ∀ k, k < n → ba' k = ba k) (hr : ∀ k, k < n → rs' k = rs k) : LO l ba' rs' n N := by
  refine ⟨fun k hk => ?_, fun k hk => ?_, fun hn => ?_, h.2.2.2.1, fun hl k hk => ?_⟩
  · rw [hr k (by omega)]
    exact h.1 k hk
  · rw [hr k hk, hb k hk]
    by_cases h1 : k + 1 < n
    · rw [if_pos h1, hb (k + 1) h1]
      have h2 := h.2.1 k hk
      rw [if_pos h1] at h2
      exact h2
    · rw [if_neg h1]
      have h2 := h.2.1 k hk
      rw [if_neg h1] at h2
      exact h2
  · rw [hb _ (by omega), hr _ (by omega)]
    exact h.2.2.1 hn
  · rw [hr k hk]
    exact h.2.2.2.2 hl k hk
/-- records x at the end of the last segment -/
theorem LO_add {l n N : Nat} {ba ba' : Nat → Nat} {rs rs' : Nat → List R5} {x : List R5} (h : LO l ba rs n N) (hn : 0 < n) (hb : ∀ k, k < n → ba' k = ba k) (hr : ∀ k, k + 1 < n → rs' k = rs k) (he : rs' (n - 1) = rs (n - 1) ++ x) (hx : 0 < x.length) (hN : N + x.length < 2 ^ 32) (hx1 : ∀ k, k < x.length → (gR x k).1 = nI (N + k)) (hx3 : l = 3 → ∀ r ∈ x, ∃ q, q < 32 ∧ r.2.2.1 = nI q) : LO l ba' rs' n (N + x.length) := by
  refine ⟨fun k hk => ?_, fun k hk => ?_, fun _ => ?_, fun h0 => absurd h0 (by omega), fun hl k hk => ?_⟩
  · rw [hr k hk]
    exact h.1 k hk
  · rw [hb k hk]
    have h2 := h.2.1 k hk
    by_cases h1 : k + 1 < n
    · rw [if_pos h1, hb (k + 1) h1, hr k h1]
      rw [if_pos h1] at h2
      exact h2
    · rw [if_neg h1]
      rw [if_neg h1] at h2
      have hk1 : k = n - 1 := by omega
      subst hk1
      rw [he]
      exact Asc_app h2 (Asc_num hx1)
  · rw [he, hb _ (by omega)]
    obtain ⟨y, r, hy⟩ : ∃ y r, x = y ++ [r] := by
      rcases List.eq_nil_or_concat x with h5 | ⟨y, r, h5⟩
      · subst h5
        exact absurd hx (Nat.lt_irrefl 0)
      · exact ⟨y, r, by rw [h5, List.concat_eq_append]⟩
    have e := lastN_num (b := 0) hN hx1 hx
    rw [hy, lastN_app] at e
    rw [hy, ← List.append_assoc, lastN_app]
    exact e.symm
  · by_cases h1 : k + 1 < n
    · rw [hr k h1]
      exact h.2.2.2.2 hl k hk
    · have hk1 : k = n - 1 := by omega
      subst hk1
      rw [he]
      intro r hm
      rcases List.mem_append.mp hm with h5 | h5
      · exact h.2.2.2.2 hl _ hk r h5
      · exact hx3 hl r h5
/-- a new segment with the records x, or none -/
theorem LO_new {l n N : Nat} {ba ba' : Nat → Nat} {rs rs' : Nat → List R5} {x : List R5} (h : LO l ba rs n N) (hl0 : 0 < n → ¬ rs (n - 1) = []) (hb : ∀ k, k < n → ba' k = ba k) (hbn : ba' n = N) (hr : ∀ k, k < n → rs' k = rs k) (he : rs' n = x) (hN : N + x.length < 2 ^ 32) (hx1 : ∀ k, k < x.length → (gR x k).1 = nI (N + k)) (hx3 : l = 3 → ∀ r ∈ x, ∃ q, q < 32 ∧ r.2.2.1 = nI q) : LO l ba' rs' (n + 1) (N + x.length) := by
  refine ⟨fun k hk => ?_, fun k hk => ?_, fun _ => ?_, fun h0 => absurd h0 (by omega), fun hl k hk => ?_⟩
  · rw [hr k (by omega)]
    by_cases h1 : k + 1 < n
    · exact h.1 k h1
    · have hk1 : k = n - 1 := by omega
      subst hk1
      exact hl0 (by omega)
  · by_cases h1 : k + 1 < n + 1
    · rw [if_pos h1, hb k (by omega), hr k (by omega)]
      have h2 := h.2.1 k (by omega)
      by_cases h3 : k + 1 < n
      · rw [if_pos h3] at h2
        rw [hb (k + 1) h3]
        exact h2
      · rw [if_neg h3] at h2
        rw [show k + 1 = n by omega, hbn]
        exact h2
    · rw [if_neg h1, show k = n by omega, hbn, he]
      exact Asc_num hx1
  · rw [Nat.add_sub_cancel, hbn, he]
    rcases Nat.eq_zero_or_pos x.length with h0 | h0
    · have : x = [] := List.length_eq_zero_iff.mp h0
      subst this
      rfl
    · exact (lastN_num hN hx1 h0).symm
  · by_cases h1 : k < n
    · rw [hr k h1]
      exact h.2.2.2.2 hl k h1
    · rw [show k = n by omega, he]
      exact hx3 hl
/-- the j-th segment goes -/
theorem LO_rm {l n N j : Nat} {ba ba' : Nat → Nat} {rs rs' : Nat → List R5} (h : LO l ba rs n N) (hj : j + 1 < n) (hb : ∀ k, k < n - 1 → ba' k = if k < j then ba k else ba (k + 1)) (hr : ∀ k, k < n - 1 → rs' k = if k < j then rs k else rs (k + 1)) : LO l ba' rs' (n - 1) N := by
  have hle : ∀ k, k + 1 < n → ba k ≤ ba (k + 1) := fun k hk => by
    have h2 := h.2.1 k (by omega)
    rw [if_pos hk] at h2
    exact Asc_le h2
  refine ⟨fun k hk => ?_, fun k hk => ?_, fun _ => ?_, fun h0 => absurd h0 (by omega), fun hl k hk => ?_⟩
  · rw [hr k (by omega)]
    by_cases h1 : k < j
    · rw [if_pos h1]
      exact h.1 k (by omega)
    · rw [if_neg h1]
      exact h.1 (k + 1) (by omega)
  · rw [hb k hk, hr k hk]
    by_cases h1 : k < j
    · rw [if_pos h1, if_pos h1, if_pos (by omega), hb (k + 1) (by omega)]
      have h2 := h.2.1 k (by omega)
      rw [if_pos (by omega)] at h2
      by_cases h3 : k + 1 < j
      · rw [if_pos h3]
        exact h2
      · rw [if_neg h3]
        exact Asc_hi (hle (k + 1) (by omega)) h2
    · rw [if_neg h1, if_neg h1]
      have h2 := h.2.1 (k + 1) (by omega)
      by_cases h3 : k + 1 < n - 1
      · rw [if_pos h3, hb (k + 1) h3, if_neg (by omega)]
        rw [if_pos (by omega)] at h2
        exact h2
      · rw [if_neg h3]
        rw [if_neg (by omega)] at h2
        exact h2
  · rw [hb _ (by omega), hr _ (by omega), if_neg (by omega), if_neg (by omega), show n - 1 - 1 + 1 = n - 1 by omega]
    exact h.2.2.1 (by omega)
  · rw [hr k hk]
    by_cases h1 : k < j
    · rw [if_pos h1]
      exact h.2.2.2.2 hl k (by omega)
    · rw [if_neg h1]
      exact h.2.2.2.2 hl (k + 1) (by omega)
/-- the j-th segment keeps some of its records -/
theorem LO_sub {l n N j : Nat} {ba ba' : Nat → Nat} {rs rs' : Nat → List R5} (h : LO l ba rs n N) (hj : j + 1 < n) (hb : ∀ k, k < n → ba' k = ba k) (hr : ∀ k, k < n → ¬ k = j → rs' k = rs k) (hs : List.Sublist (rs' j) (rs j)) (hne : ¬ rs' j = []) : LO l ba' rs' n N := by
  refine ⟨fun k hk => ?_, fun k hk => ?_, fun _ => ?_, h.2.2.2.1, fun hl k hk => ?_⟩
  · by_cases h1 : k = j
    · rw [h1]
      exact hne
    · rw [hr k (by omega) h1]
      exact h.1 k hk
  · have h2 := h.2.1 k hk
    rw [hb k hk]
    have h3 : (if k + 1 < n then ba' (k + 1) else N) = (if k + 1 < n then ba (k + 1) else N) := by
      by_cases h4 : k + 1 < n
      · rw [if_pos h4, if_pos h4, hb _ h4]
      · rw [if_neg h4, if_neg h4]
    rw [h3]
    by_cases h1 : k = j
    · subst h1
      exact Asc_sub hs h2
    · rw [hr k hk h1]
      exact h2
  · rw [hb _ (by omega), hr _ (by omega) (by omega)]
    exact h.2.2.1 (by omega)
  · by_cases h1 : k = j
    · subst h1
      intro r hm
      exact h.2.2.2.2 hl k hk r (hs.subset hm)
    · rw [hr k hk h1]
      exact h.2.2.2.2 hl k hk
/-- a log on the disk -/
def WL (D : Nat → Nat) (l : Nat) (f bc : Nat → Nat) (n N : Nat) : Prop := SG D l f n ∧ (∀ k, k < n → WS D (f k) (bc (f k))) ∧ LO l (fun k => bB D (f k)) (fun k => sRs D (f k) (bc (f k))) n N
theorem nxB_last {D : Nat → Nat} {s : Nat} : ∀ {c : Nat}, (∀ i, i < c → WB D (sb D s i)) → nxB D s c = nI (lastN (bB D s) (sRs D s c))
  | 0, _ => rfl
  | c + 1, h => by
    have h1 := (h c (by omega)).1
    obtain ⟨m, hm⟩ : ∃ m, bN D (sb D s c) = m + 1 := ⟨bN D (sb D s c) - 1, by omega⟩
    have e : sRs D s (c + 1) = (sRs D s c ++ mp (r5 D (bB D s) (sb D s c)) m) ++ [r5 D (bB D s) (sb D s c) m] := by
      rw [sRs_succ]
      unfold bRs
      rw [hm, List.append_assoc]
      rfl
    rw [e, lastN_app]
    show oR D (bB D s) (sb D s c) (bN D (sb D s c) - 1) + 1 = nI (uN (oR D (bB D s) (sb D s c) m) + 1)
    rw [hm, Nat.add_sub_cancel, ← nI_add, nI_uN]
    rfl
theorem WL_nx {D : Nat → Nat} {l n N : Nat} {f bc : Nat → Nat} (h : WL D l f bc n N) : nxO D f bc n = nI N := by
  unfold nxO
  by_cases h0 : n = 0
  · rw [if_pos h0, h.2.2.2.2.2.1 h0]
  · rw [if_neg h0, nxB_last (h.2.1 _ (by omega)).2.2, h.2.2.2.2.1 (by omega)]
theorem cS_leN (p : Nat → Bool) : ∀ N, cS p N ≤ N
  | 0 => Nat.le_refl 0
  | N + 1 => by
    have h := cS_leN p N
    show cS p N + (if p N = true then 1 else 0) ≤ N + 1
    split <;> omega
theorem cS_lt {p : Nat → Bool} : ∀ {N s : Nat}, s < N → p s = false → cS p N < N
  | 0, s, h, _ => absurd h (Nat.not_lt_zero s)
  | N + 1, s, h, hp => by
    have h1 := cS_leN p N
    show cS p N + (if p N = true then 1 else 0) < N + 1
    by_cases hs : s = N
    · rw [← hs, hp, if_neg (by decide)]
      rw [← hs] at h1
      omega
    · have h2 := cS_lt (N := N) (s := s) (by omega) hp
      split <;> omega
theorem SG_room {D : Nat → Nat} {l n : Nat} {f : Nat → Nat} (h : SG D l f n) : frS D 16 0 = -1 ∨ n < 16 := by
  rcases frN_spec D 16 0 with h1 | h1
  · exact Or.inl h1.1
  · refine Or.inr ?_
    rw [← SG_n h]
    refine cS_lt (s := frN D 16 0) (by omega) ?_
    unfold ow
    rw [h1.2.2.2]
    exact decide_eq_false (by omega)
