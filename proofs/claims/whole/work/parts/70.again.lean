/-! Keys that come again; logs under writes. -/
theorem gR_app_l {a b : List R5} {i : Nat} (h : i < a.length) : gR (a ++ b) i = gR a i := by
  simp [gR, List.getElem?_append_left h]
theorem gR_app_r {a b : List R5} (i : Nat) : gR (a ++ b) (a.length + i) = gR b i := by
  simp [gR, List.getElem?_append_right (Nat.le_add_right a.length i)]
theorem gR_mp (g : Nat → R5) : ∀ {n k : Nat}, k < n → gR (mp g n) k = g k
  | 0, k, h => absurd h (Nat.not_lt_zero k)
  | n + 1, k, h => by
    show gR (mp g n ++ [g n]) k = g k
    by_cases hk : k < n
    · rw [gR_app_l (by rw [mp_len]; exact hk)]
      exact gR_mp g hk
    · have e : k = n := by omega
      subst e
      have h1 := gR_at (mp g k) (g k)
      rw [mp_len] at h1
      exact h1
theorem mem_gR : ∀ {l : List R5} {r : R5}, r ∈ l → ∃ i, i < l.length ∧ gR l i = r
  | [], _, h => absurd h (List.not_mem_nil)
  | x :: t, r, h => by
    rcases List.mem_cons.mp h with h1 | h1
    · exact ⟨0, Nat.zero_lt_succ _, h1.symm⟩
    · obtain ⟨i, hi, e⟩ := mem_gR h1
      exact ⟨i + 1, Nat.succ_lt_succ hi, e⟩
theorem gR_mem {l : List R5} {i : Nat} (h : i < l.length) : gR l i ∈ l := by
  have e : gR l i = l[i] := by simp [gR, h]
  rw [e]
  exact List.getElem_mem h
theorem fl_split (g : Nat → List R5) : ∀ {c j : Nat}, j < c → ∃ t, fl g c = fl g j ++ (g j ++ t)
  | 0, j, h => absurd h (Nat.not_lt_zero j)
  | c + 1, j, h => by
    by_cases hj : j = c
    · subst hj
      exact ⟨[], by rw [List.append_nil]; rfl⟩
    · obtain ⟨t, e⟩ := fl_split g (show j < c by omega)
      refine ⟨t ++ g c, ?_⟩
      show fl g c ++ g c = _
      rw [e]
      simp only [List.append_assoc]
/-- the records of z segments from k on -/
def sf (D : Nat → Nat) (f bc : Nat → Nat) : Nat → Nat → List R5
  | 0, _ => []
  | z + 1, k => sRs D (f k) (bc (f k)) ++ sf D f bc z (k + 1)
theorem fl_sf (D : Nat → Nat) (f bc : Nat → Nat) : ∀ z i, fl (fun k => sRs D (f k) (bc (f k))) (i + z) = fl (fun k => sRs D (f k) (bc (f k))) i ++ sf D f bc z i
  | 0, i => (List.append_nil _).symm
  | z + 1, i => by
    rw [show i + (z + 1) = i + 1 + z by omega, fl_sf D f bc z (i + 1)]
    show (fl _ i ++ sRs D (f i) (bc (f i))) ++ _ = fl _ i ++ (sRs D (f i) (bc (f i)) ++ _)
    rw [List.append_assoc]
theorem sf_mem {D : Nat → Nat} {f bc : Nat → Nat} {r : R5} : ∀ {z k : Nat}, r ∈ sf D f bc z k → ∃ i, k ≤ i ∧ i < k + z ∧ r ∈ sRs D (f i) (bc (f i))
  | 0, _, h => absurd h (List.not_mem_nil)
  | z + 1, k, h => by
    rcases List.mem_append.mp (show r ∈ sRs D (f k) (bc (f k)) ++ sf D f bc z (k + 1) from h) with h1 | h1
    · exact ⟨k, Nat.le_refl _, by omega, h1⟩
    · obtain ⟨i, h2, h3, h4⟩ := sf_mem h1
      exact ⟨i, by omega, by omega, h4⟩
theorem sf_in {D : Nat → Nat} {f bc : Nat → Nat} {r : R5} {z : Nat} : ∀ {k i : Nat}, k ≤ i → i < k + z → r ∈ sRs D (f i) (bc (f i)) → r ∈ sf D f bc z k := by
  induction z with
  | zero =>
    intro k i h1 h2 _
    exact absurd h2 (by omega)
  | succ z ih =>
    intro k i h1 h2 h
    show r ∈ sRs D (f k) (bc (f k)) ++ sf D f bc z (k + 1)
    by_cases hk : i = k
    · rw [← hk]
      exact List.mem_append_left _ h
    · exact List.mem_append_right _ (ih (by omega) (by omega) h)
theorem sf_same {D D' : Nat → Nat} {f f' bc bc' : Nat → Nat} : ∀ {z k k' : Nat}, (∀ i, i < z → sRs D' (f' (k' + i)) (bc' (f' (k' + i))) = sRs D (f (k + i)) (bc (f (k + i)))) → sf D' f' bc' z k' = sf D f bc z k
  | 0, _, _, _ => rfl
  | z + 1, k, k', h => by
    show sRs D' (f' k') (bc' (f' k')) ++ sf D' f' bc' z (k' + 1) = sRs D (f k) (bc (f k)) ++ sf D f bc z (k + 1)
    have h0 := h 0 (by omega)
    rw [Nat.add_zero, Nat.add_zero] at h0
    have h2 : ∀ i, i < z → sRs D' (f' (k' + 1 + i)) (bc' (f' (k' + 1 + i))) = sRs D (f (k + 1 + i)) (bc (f (k + 1 + i))) := fun i hi => by
      have h1 := h (i + 1) (by omega)
      rw [show k' + (i + 1) = k' + 1 + i by omega, show k + (i + 1) = k + 1 + i by omega] at h1
      exact h1
    rw [h0, sf_same h2]
theorem sf_Asc {D : Nat → Nat} {l n N : Nat} {f bc : Nat → Nat} (h : LO l (fun k => bB D (f k)) (fun k => sRs D (f k) (bc (f k))) n N) : ∀ z k, k + (z + 1) = n → Asc (bB D (f k)) N (sf D f bc (z + 1) k)
  | 0, k, hk => by
    have h1 := h.2.1 k (by omega)
    rw [if_neg (by omega)] at h1
    show Asc _ _ (sRs D (f k) (bc (f k)) ++ [])
    rw [List.append_nil]
    exact h1
  | z + 1, k, hk => by
    have h1 := h.2.1 k (by omega)
    rw [if_pos (by omega)] at h1
    exact Asc_app h1 (sf_Asc h z (k + 1) (by omega))
theorem Asc_lt : ∀ {l : List R5} {lo hi i j : Nat}, Asc lo hi l → i < j → j < l.length → ∃ o o', (gR l i).1 = nI o ∧ (gR l j).1 = nI o' ∧ lo ≤ o ∧ o < o' ∧ o' < hi
  | [], _, _, _, j, _, _, h => absurd h (Nat.not_lt_zero j)
  | x :: t, lo, hi, i, j, ⟨o, e, h1, h2, h3⟩, hij, hj => by
    obtain ⟨j', rfl⟩ : ∃ j', j = j' + 1 := ⟨j - 1, by omega⟩
    have hj' : j' < t.length := Nat.lt_of_succ_lt_succ hj
    cases i with
    | zero =>
      obtain ⟨o', e', h4, h5⟩ := Asc_mem h3 (gR_mem hj')
      exact ⟨o, o', e, e', h1, by omega, h5⟩
    | succ i =>
      obtain ⟨a, b, ea, eb, h4, h5, h6⟩ := Asc_lt h3 (show i < j' by omega) hj'
      exact ⟨a, b, ea, eb, by omega, h5, h6⟩
theorem ltr_iff {L : List R5} {a : Nat} : ∀ {z i : Nat}, ltr L a z i = true ↔ ∃ x, i ≤ x ∧ x < i + z ∧ (gR L x).2.2.1 = (gR L a).2.2.1
  | 0, i => ⟨fun h => Bool.noConfusion h, fun ⟨x, h1, h2, _⟩ => by omega⟩
  | z + 1, i => by
    have ih := ltr_iff (L := L) (a := a) (z := z) (i := i + 1)
    show (if (gR L i).2.2.1 = (gR L a).2.2.1 then true else ltr L a z (i + 1)) = true ↔ _
    by_cases h : (gR L i).2.2.1 = (gR L a).2.2.1
    · rw [if_pos h]
      exact ⟨fun _ => ⟨i, Nat.le_refl _, by omega, h⟩, fun _ => rfl⟩
    · rw [if_neg h, ih]
      refine ⟨fun ⟨x, h1, h2, h3⟩ => ⟨x, by omega, by omega, h3⟩, fun ⟨x, h1, h2, h3⟩ => ?_⟩
      by_cases hx : x = i
      · rw [hx] at h3
        exact absurd h3 h
      · exact ⟨x, by omega, by omega, h3⟩
theorem caB_iff {D : Nat → Nat} {b q : Nat} {o y : Int32} : ∀ {z k : Nat}, caB D b q o y z k = true ↔ ∃ x, k ≤ x ∧ x < k + z ∧ kR D q x = y ∧ o < oR D b q x
  | 0, i => ⟨fun h => Bool.noConfusion h, fun ⟨x, h1, h2, _⟩ => by omega⟩
  | z + 1, i => by
    have ih := caB_iff (D := D) (b := b) (q := q) (o := o) (y := y) (z := z) (k := i + 1)
    show (if kR D q i = y ∧ o < oR D b q i then true else caB D b q o y z (i + 1)) = true ↔ _
    by_cases h : kR D q i = y ∧ o < oR D b q i
    · rw [if_pos h]
      exact ⟨fun _ => ⟨i, Nat.le_refl _, by omega, h⟩, fun _ => rfl⟩
    · rw [if_neg h, ih]
      refine ⟨fun ⟨x, h1, h2, h3⟩ => ⟨x, by omega, by omega, h3⟩, fun ⟨x, h1, h2, h3⟩ => ?_⟩
      by_cases hx : x = i
      · rw [hx] at h3
        exact absurd h3 h
      · exact ⟨x, by omega, by omega, h3⟩
theorem caS_iff {D : Nat → Nat} {s : Nat} {o y : Int32} : ∀ {z j : Nat}, caS D s o y z j = true ↔ ∃ x, j ≤ x ∧ x < j + z ∧ caB D (bB D s) (sb D s x) o y (bN D (sb D s x)) 0 = true
  | 0, i => ⟨fun h => Bool.noConfusion h, fun ⟨x, h1, h2, _⟩ => by omega⟩
  | z + 1, i => by
    have ih := caS_iff (D := D) (s := s) (o := o) (y := y) (z := z) (j := i + 1)
    show (caB D (bB D s) (sb D s i) o y (bN D (sb D s i)) 0 || caS D s o y z (i + 1)) = true ↔ _
    rw [Bool.or_eq_true, ih]
    refine ⟨fun h => ?_, fun ⟨x, h1, h2, h3⟩ => ?_⟩
    · rcases h with h | ⟨x, h1, h2, h3⟩
      · exact ⟨i, Nat.le_refl _, by omega, h⟩
      · exact ⟨x, by omega, by omega, h3⟩
    · by_cases hx : x = i
      · rw [hx] at h3
        exact Or.inl h3
      · exact Or.inr ⟨x, by omega, by omega, h3⟩
theorem caL_iff {D : Nat → Nat} {f bc : Nat → Nat} {o y : Int32} : ∀ {n : Nat}, caL D f bc o y n = true ↔ ∃ k, k < n ∧ ∃ r, r ∈ sRs D (f k) (bc (f k)) ∧ r.2.2.1 = y ∧ o < r.1
  | 0 => ⟨fun h => Bool.noConfusion h, fun ⟨x, h1, _⟩ => absurd h1 (Nat.not_lt_zero x)⟩
  | n + 1 => by
    have ih := caL_iff (D := D) (f := f) (bc := bc) (o := o) (y := y) (n := n)
    have hs : caS D (f n) o y (bc (f n)) 0 = true ↔ ∃ r, r ∈ sRs D (f n) (bc (f n)) ∧ r.2.2.1 = y ∧ o < r.1 := by
      rw [caS_iff]
      refine ⟨fun ⟨x, _, h2, h3⟩ => ?_, fun ⟨r, hr, h1, h2⟩ => ?_⟩
      · obtain ⟨k, _, hk, h4, h5⟩ := caB_iff.mp h3
        exact ⟨r5 D (bB D (f n)) (sb D (f n) x) k, fl_in (by omega) (mp_in _ (by omega)), h4, h5⟩
      · obtain ⟨x, hx, hr2⟩ := fl_mem hr
        obtain ⟨k, hk, e⟩ := mp_mem hr2
        rw [e] at h1 h2
        exact ⟨x, Nat.zero_le _, by omega, caB_iff.mpr ⟨k, Nat.zero_le _, by omega, h1, h2⟩⟩
    show (caS D (f n) o y (bc (f n)) 0 || caL D f bc o y n) = true ↔ _
    rw [Bool.or_eq_true, ih, hs]
    refine ⟨fun h => ?_, fun ⟨k, hk, h⟩ => ?_⟩
    · rcases h with h | ⟨k, hk, h⟩
      · exact ⟨n, by omega, h⟩
      · exact ⟨k, by omega, h⟩
    · by_cases hx : k = n
      · rw [hx] at h
        exact Or.inl h
      · exact Or.inr ⟨k, by omega, h⟩
theorem LO_mono {l n N : Nat} {ba : Nat → Nat} {rs : Nat → List R5} (h : LO l ba rs n N) {i j : Nat} (hij : i ≤ j) (hj : j < n) : ba i ≤ ba j := by
  induction hij with
  | refl => exact Nat.le_refl _
  | step hm ih =>
    rename_i m
    have h1 := h.2.1 m (by omega)
    rw [if_pos hj] at h1
    exact Nat.le_trans (ih (by omega)) (Asc_le h1)
/-- the class and the model leave out the same records -/
theorem pm_lo {D : Nat → Nat} {l n N a i j k : Nat} {f bc : Nat → Nat} {P0 : List R5} {lim : Int64} (h : LO l (fun k => bB D (f k)) (fun k => sRs D (f k) (bc (f k))) n N) (hi : i < n) (hN : N ≤ 2 ^ 31) (ha : P0.length = a) (hj : j < bc (f i)) (hk : k < bN D (sb D (f i) j)) : lo (P0 ++ sf D f bc (n - i) i) lim (a + (sRs D (f i) j).length + k) (tR D (sb D (f i) j) k) (dR D (sb D (f i) j) k) = pm D f bc n lim (f i) j k := by
  obtain ⟨z, hz⟩ : ∃ z, n - i = z + 1 := ⟨n - i - 1, by omega⟩
  have hA := sf_Asc h z i (by omega)
  rw [← hz] at hA
  obtain ⟨t, ht⟩ := fl_split (fun x => bRs D (bB D (f i)) (sb D (f i) x)) hj
  have hYs : sf D f bc (n - i) i = sRs D (f i) j ++ (bRs D (bB D (f i)) (sb D (f i) j) ++ (t ++ sf D f bc z (i + 1))) := by
    rw [hz]
    show sRs D (f i) (bc (f i)) ++ sf D f bc z (i + 1) = _
    rw [show sRs D (f i) (bc (f i)) = sRs D (f i) j ++ (bRs D (bB D (f i)) (sb D (f i) j) ++ t) from ht]
    simp only [List.append_assoc]
  have hYp : gR (sf D f bc (n - i) i) ((sRs D (f i) j).length + k) = r5 D (bB D (f i)) (sb D (f i) j) k := by
    rw [hYs, gR_app_r, gR_app_l (by rw [bRs_len]; exact hk)]
    exact gR_mp _ hk
  have hpl : (sRs D (f i) j).length + k < (sf D f bc (n - i) i).length := by
    rw [hYs, List.length_append, List.length_append, bRs_len]
    omega
  have hZ : ∀ x, gR (P0 ++ sf D f bc (n - i) i) (a + x) = gR (sf D f bc (n - i) i) x := fun x => by
    rw [← ha]
    exact gR_app_r x
  have hZl : (P0 ++ sf D f bc (n - i) i).length = a + (sf D f bc (n - i) i).length := by
    rw [List.length_append, ha]
  obtain ⟨p, hp⟩ : ∃ p, p = (sRs D (f i) j).length + k := ⟨_, rfl⟩
  rw [← hp] at hYp hpl
  obtain ⟨Y, hY⟩ : ∃ Y, Y = sf D f bc (n - i) i := ⟨_, rfl⟩
  rw [← hY] at hA hYp hpl hZ hZl
  have main : ltr (P0 ++ Y) (a + p) ((P0 ++ Y).length - (a + p + 1)) (a + p + 1) = caL D f bc (oR D (bB D (f i)) (sb D (f i) j) k) (kR D (sb D (f i) j) k) n := by
    rw [Bool.eq_iff_iff, ltr_iff, caL_iff]
    refine ⟨fun ⟨x, h1, h2, h3⟩ => ?_, fun ⟨m, hm, r, hr, h1, h2⟩ => ?_⟩
    · obtain ⟨y, rfl⟩ : ∃ y, x = a + y := ⟨x - a, by omega⟩
      rw [hZ, hZ, hYp] at h3
      have hy : y < Y.length := by omega
      obtain ⟨o, o', e1, e2, _, h5, h6⟩ := Asc_lt hA (show p < y by omega) hy
      have hmem := gR_mem hy
      rw [hY] at hmem
      obtain ⟨m, h7, h8, h9⟩ := sf_mem hmem
      rw [← hY] at h9
      refine ⟨m, by omega, gR Y y, h9, h3, ?_⟩
      rw [hYp] at e1
      rw [e2, show oR D (bB D (f i)) (sb D (f i) j) k = nI o from e1]
      exact (nI_ltI (by omega) (by omega)).mpr h5
    · obtain ⟨o, e1, h3, h4⟩ := Asc_mem hA (gR_mem hpl)
      rw [hYp] at e1
      have e1' : oR D (bB D (f i)) (sb D (f i) j) k = nI o := e1
      rw [e1'] at h2
      by_cases hmi : m < i
      · have h5 := h.2.1 m hm
        rw [if_pos (by omega)] at h5
        obtain ⟨o', e2, h6, h7⟩ := Asc_mem h5 hr
        have h8 := LO_mono h (show m + 1 ≤ i by omega) hi
        rw [e2] at h2
        have h8' : bB D (f (m + 1)) ≤ bB D (f i) := h8
        have h7' : o' < bB D (f (m + 1)) := h7
        have h9 := (nI_ltI (by omega) (by omega)).mp h2
        omega
      · have hin : r ∈ Y := by
          rw [hY]
          exact sf_in (by omega) (by omega) hr
        obtain ⟨y, hy, ey⟩ := mem_gR hin
        have hpy : p < y := by
          refine Decidable.byContradiction (fun hno => ?_)
          by_cases hyp : y = p
          · rw [hyp, hYp] at ey
            rw [← ey] at h2
            rw [show (r5 D (bB D (f i)) (sb D (f i) j) k).1 = nI o from e1] at h2
            exact absurd h2 Int32.lt_irrefl
          · obtain ⟨a1, b1, ea, eb, _, h8, h9⟩ := Asc_lt hA (show y < p by omega) hpl
            rw [ey] at ea
            rw [hYp] at eb
            have eb' : nI o = nI b1 := e1.symm.trans eb
            rw [ea, eb'] at h2
            have h10 := (nI_ltI (by omega) (by omega)).mp h2
            omega
        refine ⟨a + y, by omega, by omega, ?_⟩
        rw [hZ, hZ, hYp, ey]
        exact h1
  unfold lo pm
  rw [← hY, Nat.add_assoc, ← hp, main]
