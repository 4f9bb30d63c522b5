/-! A cleaned slot is read back. -/
theorem uz_pos {v : Nat} (h : v < 2 ^ 31) : uz (nI (v * 2)) = nI v := by
  unfold uz
  have h1 : ((nI (v * 2)).toUInt32 >>> ((1 : Int32).toUInt32 &&& Int32.toUInt32 31)).toInt32 = nI (v * 2 / 2 ^ 1) := pk_ushrN (by omega) 1 1 (by decide)
  have h2 : nI (v * 2) &&& 1 = nI (v * 2 % 2 ^ 1) := pk_andN (by omega) 1 (by decide)
  rw [h1, h2, show v * 2 % 2 ^ 1 = 0 by omega, show v * 2 / 2 ^ 1 = v by omega, show -(nI 0) = 0 by decide, Int32.xor_zero]
theorem uz_neg {v : Nat} (h : v < 2 ^ 31) : uz (nI (v * 2 + 1)) = nI v ^^^ -1 := by
  unfold uz
  have h1 : ((nI (v * 2 + 1)).toUInt32 >>> ((1 : Int32).toUInt32 &&& Int32.toUInt32 31)).toInt32 = nI ((v * 2 + 1) / 2 ^ 1) := pk_ushrN (by omega) 1 1 (by decide)
  have h2 : nI (v * 2 + 1) &&& 1 = nI ((v * 2 + 1) % 2 ^ 1) := pk_andN (by omega) 1 (by decide)
  rw [h1, h2, show (v * 2 + 1) % 2 ^ 1 = 1 by omega, show (v * 2 + 1) / 2 ^ 1 = v by omega, show -(nI 1) = -1 by decide]
theorem uz_zz (x : Int32) : uz (nI (zN x)) = x := by
  have e : nI (zN x) = zz x := nI_uN (zz x)
  rw [e]
  by_cases h : x < 0
  · rw [← zz_neg h]
    obtain ⟨w, hw, ew⟩ : ∃ w, w < 2 ^ 31 ∧ x ^^^ (-1) = nI w := by
      refine ⟨uN (x ^^^ (-1)), ?_, (nI_uN _).symm⟩
      have h1 := Int32.lt_iff_toInt_lt.mp h
      have h2 : (0 : Int32).toInt = 0 := rfl
      rw [h2] at h1
      have h3 : (x ^^^ (-1)).toBitVec = ~~~ x.toBitVec := by
        show x.toBitVec ^^^ BitVec.allOnes 32 = _
        exact BitVec.xor_allOnes
      have h4 : uN (x ^^^ (-1)) = 2 ^ 32 - 1 - x.toBitVec.toNat := by
        unfold uN
        rw [h3, BitVec.toNat_not]
      have h5 : x.toInt = x.toBitVec.toInt := rfl
      have h6 := x.toBitVec.isLt
      rw [h5, BitVec.toInt_eq_toNat_cond] at h1
      split at h1
      · omega
      · omega
    rw [ew]
    have e1 : nI w <<< ((1 : Int32) &&& 31) = nI (w * 2 ^ 1) := pk_shlN _ 1 (by decide) (by omega)
    have e2 : nI (w * 2 ^ 1) ||| 1 = nI (w * 2 ^ 1 + 1) := nI_oradd (by decide)
    rw [e1, e2, show w * 2 ^ 1 + 1 = w * 2 + 1 by omega, uz_neg hw, ← ew, Int32.xor_assoc, Int32.xor_self, Int32.xor_zero]
  · have h0 : 0 ≤ x := Int32.not_lt.mp h
    rw [← zz_pos h0]
    have hw : uN x < 2 ^ 31 := by
      have h1 := Int32.le_iff_toInt_le.mp h0
      have h2 : (0 : Int32).toInt = 0 := rfl
      rw [h2, show x.toInt = x.toBitVec.toInt from rfl, BitVec.toInt_eq_toNat_cond] at h1
      have h6 := x.toBitVec.isLt
      unfold uN
      split at h1
      · omega
      · omega
    have e1 : nI (uN x) <<< ((1 : Int32) &&& 31) = nI (uN x * 2 ^ 1) := pk_shlN _ 1 (by decide) (by omega)
    rw [nI_uN] at e1
    rw [e1, show uN x * 2 ^ 1 = uN x * 2 by omega, uz_pos hw, nI_uN]
/-- a record that can be read back -/
def gd (r : R5) : Prop := r.2.2.2.2 = nI 0 ∨ (r.2.2.2.2 = nI 1 ∧ r.2.2.2.1 = 0)
theorem gd_iff {r : R5} (h : gd r) : b8 r.2.2.2.2 = 0 ↔ r.2.2.2.2 = 0 := by
  rcases h with h | h
  · rw [h]
    exact ⟨fun _ => rfl, fun _ => rfl⟩
  · rw [h.1]
    exact ⟨fun q => absurd q (by decide), fun q => absurd q (by decide)⟩
theorem gd_b8 {r : R5} (h : gd r) : nI (b8 r.2.2.2.2) = r.2.2.2.2 ∧ b8 r.2.2.2.2 ≤ 1 := by
  rcases h with h | h
  · rw [h]
    exact ⟨rfl, by decide⟩
  · rw [h.1]
    exact ⟨rfl, by decide⟩
theorem eR_back2 {D : Nat → Nat} {q : Nat} {f r : R5} (hd : gd r) (h : At D q (eR f r)) : rT D q = r.2.1 - f.2.1 ∧ rW D q = r.2.2.2.1 := by
  have hb := eR_back (gd_iff hd) h
  have a1 : At D q (vE 4 (uN (r.1 - f.1))) := At_l h
  have h1 := At_r h
  have a2 := At_l h1
  have h2 := At_r h1
  have a3 := At_l h2
  have h3 := At_r h2
  have l1 := lV_back (uN_lt _) a1
  have l2 := lV_back (zN_lt _) a2
  have l3 := lV_back (zN_lt _) a3
  have v2 := rV_back (zN_lt _) a2
  have e1 : rl1 D q = (vE 4 (uN (r.1 - f.1))).length := l1
  have e2 : rl2 D q = (vE 4 (uN (r.1 - f.1))).length + (vE 4 (zN (r.2.1 - f.2.1))).length := by
    unfold rl2
    rw [e1]
    exact congrArg _ l2
  have e3 : rl3 D q = (vE 4 (uN (r.1 - f.1))).length + (vE 4 (zN (r.2.1 - f.2.1))).length + (vE 4 (zN r.2.2.1)).length := by
    unfold rl3
    rw [e2, ← Nat.add_assoc]
    exact congrArg _ l3
  refine ⟨?_, ?_⟩
  · unfold rT
    rw [e1, v2, uz_zz]
  · unfold rW
    rw [hb.2.2.2]
    by_cases hz : r.2.2.2.2 = 0
    · rw [if_pos ((gd_iff hd).mpr hz)]
      have h4 := At_t h3
      rw [if_pos hz] at h4
      rw [e3, ← Nat.add_assoc, ← Nat.add_assoc, rV_back (zN_lt _) h4, uz_zz]
    · rw [if_neg (fun q => hz ((gd_iff hd).mp q))]
      rcases hd with h5 | h5
      · exact absurd h5 hz
      · exact h5.2.symm
theorem eRs_back2 {D : Nat → Nat} {f : R5} {q : Nat} : ∀ (l : List R5) (k : Nat), (∀ r ∈ l, gd r) → At D (rq D q k) (eRs f l) → ∀ j, j < l.length → rT D (rq D q (k + j)) = (gR l j).2.1 - f.2.1 ∧ rW D (rq D q (k + j)) = (gR l j).2.2.2.1
  | [], _, _, _, j, hj => absurd hj (Nat.not_lt_zero j)
  | r :: t, k, hd, h, j, hj => by
    have h1 := eR_back2 (hd r (List.mem_cons_self ..)) (At_l h)
    have h0 := eR_back (gd_iff (hd r (List.mem_cons_self ..))) (At_l h)
    have e : rq D q (k + 1) = rq D q k + (eR f r).length := by
      show rq D q k + rl D (rq D q k) = _
      rw [h0.1]
    cases j with
    | zero => exact h1
    | succ j =>
      have h3 := eRs_back2 t (k + 1) (fun x hx => hd x (List.mem_cons_of_mem _ hx)) (by rw [e]; exact At_r h) j (Nat.lt_of_succ_lt_succ hj)
      rw [show k + 1 + j = k + (j + 1) by omega] at h3
      exact h3
theorem mp_gR : ∀ (l : List R5) {g : Nat → R5}, (∀ k, k < l.length → g k = gR l k) → mp g l.length = l := by
  intro l
  have h : ∀ n, n ≤ l.length → ∀ {g : Nat → R5}, (∀ k, k < l.length → g k = gR l k) → mp g n = l.take n := by
    intro n
    induction n with
    | zero =>
      intro _ g _
      rw [List.take_zero]
      rfl
    | succ n ih =>
      intro hn g hg
      rw [take_snoc l (show n < l.length by omega)]
      show mp g n ++ [g n] = _
      rw [ih (by omega) hg, hg n (by omega)]
  intro g hg
  rw [h l.length (Nat.le_refl _) hg, List.take_length]
theorem eBt_back2 {D : Nat → Nat} {q b : Nat} {p s : Int32} {l : List R5} (hl1 : 1 ≤ l.length) (hl4 : l.length ≤ 4) (hd : ∀ r ∈ l, gd r) (h : At D q (eBt (nI b) p s l)) : WB D q ∧ nb D q = q + (eBt (nI b) p s l).length ∧ bRs D b q = l := by
  have hb := eBt_back hl1 hl4 (fun r hr => gd_iff (hd r hr)) h
  have hc := At_t h
  have a1 := At_l hc
  have h1 := At_r hc
  have a2 := At_l h1
  have h2 := At_r h1
  have h3 := At_t h2
  have a4 := At_l h3
  have h4 := At_r h3
  have h5 := At_t h4
  have l1 := lV_back (uN_lt _) a1
  have l2 := lV_back (zN_lt _) a2
  have l4 := lV_back (uN_lt _) a4
  have p2 : bp2 D q = q + 1 + (vE 4 (uN ((gR l 0).1 - nI b))).length := by
    unfold bp2
    rw [l1]
  have p3 : bp3 D q = q + 1 + (vE 4 (uN ((gR l 0).1 - nI b))).length + (vE 4 (zN (gR l 0).2.1)).length := by
    unfold bp3
    rw [p2, l2]
  have p5 : bp5 D q = q + 1 + (vE 4 (uN ((gR l 0).1 - nI b))).length + (vE 4 (zN (gR l 0).2.1)).length + 1 + (vE 4 (uN s)).length := by
    unfold bp5
    rw [p3, l4]
  have r0 : rq D q 0 = q + 1 + (vE 4 (uN ((gR l 0).1 - nI b))).length + (vE 4 (zN (gR l 0).2.1)).length + 1 + (vE 4 (uN s)).length + 1 := by
    show bp5 D q + 1 = _
    rw [p5]
  have hR := eRs_back2 l 0 hd (by rw [r0]; exact h5)
  have eT : bT D q = (gR l 0).2.1 := by
    unfold bT
    rw [p2, rV_back (zN_lt _) a2, uz_zz]
  have hmem : ∀ k, k < l.length → gR l k ∈ l := fun k hk => by
    have e : gR l k = l[k] := by simp [gR, hk]
    rw [e]
    exact List.getElem_mem hk
  refine ⟨⟨by rw [hb.1]; exact hl1, by rw [hb.1]; exact hl4, fun i hi => ?_, by rw [hb.1]; exact hb.2.2.1⟩, hb.2.1, ?_⟩
  · rw [hb.1] at hi
    rw [(hb.2.2.2.2.2 i hi).2.2]
    exact (gd_b8 (hd _ (hmem i hi))).2
  · unfold bRs
    rw [hb.1]
    refine mp_gR l (fun k hk => ?_)
    have h6 := hb.2.2.2.2.2 k hk
    have h7 := hR k hk
    rw [Nat.zero_add] at h7
    have h8 := gd_b8 (hd _ (hmem k hk))
    have et : tR D q k = (gR l k).2.1 := by
      unfold tR
      rw [eT, h7.1]
      have key : ∀ x y : Int32, x + (y - x) = y := by
        intro x y
        rw [Int32.add_comm, Int32.sub_add_cancel]
      exact key _ _
    have ek : kR D q k = (gR l k).2.2.1 := h6.2.1.trans (uz_zz _)
    have ev : vR D q k = (gR l k).2.2.2.1 := h7.2
    show (oR D b q k, tR D q k, kR D q k, vR D q k, nI (dR D q k)) = gR l k
    rw [h6.1, et, ek, ev, h6.2.2, h8.1]
theorem r5_gd {D : Nat → Nat} {b q k : Nat} (h : dR D q k ≤ 1) : gd (r5 D b q k) := by
  by_cases h0 : dR D q k = 0
  · refine Or.inl ?_
    show nI (dR D q k) = nI 0
    rw [h0]
  · refine Or.inr ⟨?_, ?_⟩
    · show nI (dR D q k) = nI 1
      rw [show dR D q k = 1 by omega]
    · show rW D (rq D q k) = 0
      unfold rW
      rw [if_neg (show ¬ rDl D (rq D q k) = 0 from h0)]
theorem kc_mem {g : Nat → R5} {p : Nat → Bool} {r : R5} : ∀ {n : Nat}, r ∈ kc g p n → ∃ k, k < n ∧ r = g k
  | 0, h => absurd h (List.not_mem_nil)
  | n + 1, h => by
    have h' : r ∈ (if p n = true then kc g p n else kc g p n ++ [g n]) := h
    split at h'
    · obtain ⟨k, hk, e⟩ := kc_mem h'
      exact ⟨k, by omega, e⟩
    · rcases List.mem_append.mp h' with h1 | h1
      · obtain ⟨k, hk, e⟩ := kc_mem h1
        exact ⟨k, by omega, e⟩
      · exact ⟨n, by omega, List.mem_singleton.mp h1⟩
theorem kc_sub (g : Nat → R5) (p : Nat → Bool) : ∀ n, List.Sublist (kc g p n) (mp g n)
  | 0 => List.Sublist.refl _
  | n + 1 => by
    show List.Sublist (if p n = true then kc g p n else kc g p n ++ [g n]) (mp g n ++ [g n])
    split
    · exact (kc_sub g p n).trans (List.sublist_append_left _ _)
    · exact (kc_sub g p n).append (List.Sublist.refl _)
theorem fl_sub {g h : Nat → List R5} (e : ∀ k, List.Sublist (g k) (h k)) : ∀ n, List.Sublist (fl g n) (fl h n)
  | 0 => List.Sublist.refl _
  | n + 1 => (fl_sub e n).append (e n)
/-- the cleaned slot's batches: how many, their bytes, their records -/
def cC (D : Nat → Nat) (s : Nat) (P : Nat → Nat → Bool) : Nat → Nat
  | 0 => 0
  | j + 1 => if (kB D s (P j) j).length = 0 then cC D s P j else cC D s P j + 1
def cB (D : Nat → Nat) (s : Nat) (P : Nat → Nat → Bool) : Nat → List Nat
  | 0 => []
  | j + 1 => if (kB D s (P j) j).length = 0 then cB D s P j else cB D s P j ++ eBt (nI (bB D s)) (nI (bP D (sb D s j))) (bS D (sb D s j)) (kB D s (P j) j)
def kS (D : Nat → Nat) (s : Nat) (P : Nat → Nat → Bool) (c : Nat) : List R5 := fl (fun i => kB D s (P i) i) c
theorem cT_cB (D : Nat → Nat) (s : Nat) (P : Nat → Nat → Bool) : ∀ j, cT D s P j = hdr 0 0 (gB D s + 1) (bB D s) ++ cB D s P j
  | 0 => (List.append_nil _).symm
  | j + 1 => by
    show (if (kB D s (P j) j).length = 0 then cT D s P j else cT D s P j ++ _) = _ ++ (if (kB D s (P j) j).length = 0 then cB D s P j else cB D s P j ++ _)
    rw [cT_cB D s P j]
    split
    · rfl
    · rw [List.append_assoc]
theorem kS_sub (D : Nat → Nat) (s : Nat) (P : Nat → Nat → Bool) (c : Nat) : List.Sublist (kS D s P c) (sRs D s c) := fl_sub (fun _ => kc_sub _ _ _) c
theorem eBt_pos (b p s : Int32) (l : List R5) : 0 < (eBt b p s l).length := by
  unfold eBt
  rw [List.length_cons]
  generalize (eCn b p s l).length = n
  omega
theorem kS_nil {D : Nat → Nat} {s : Nat} {P : Nat → Nat → Bool} : ∀ {c : Nat}, (cT D s P c).length = 8 ↔ kS D s P c = []
  | 0 => ⟨fun _ => rfl, fun _ => rfl⟩
  | c + 1 => by
    have ih := kS_nil (D := D) (s := s) (P := P) (c := c)
    have h8 := cT_8 D s P c
    show (if (kB D s (P c) c).length = 0 then cT D s P c else cT D s P c ++ _).length = 8 ↔ kS D s P c ++ kB D s (P c) c = []
    by_cases h : (kB D s (P c) c).length = 0
    · rw [if_pos h, List.length_eq_zero_iff.mp h, List.append_nil]
      exact ih
    · rw [if_neg h, List.length_append]
      refine ⟨fun q => ?_, fun q => ?_⟩
      · have h9 := eBt_pos (nI (bB D s)) (nI (bP D (sb D s c))) (bS D (sb D s c)) (kB D s (P c) c)
        omega
      · exact absurd (by rw [(List.append_eq_nil_iff.mp q).2]; rfl) h
theorem kB_gd {D : Nat → Nat} {s c j : Nat} (h : WS D s c) (hj : j < c) (p : Nat → Bool) : ∀ r ∈ kB D s p j, gd r := fun r hr => by
  obtain ⟨k, hk, e⟩ := kc_mem hr
  rw [e]
  exact r5_gd ((WS_b h hj).2.2.1 k hk)
/-- bytes behind a head are read back as batches -/
theorem cB_back {D D' : Nat → Nat} {s c r : Nat} (h : WS D s c) (P : Nat → Nat → Bool) : ∀ j, j ≤ c → At D' (128 * r + 8) (cB D s P j) → bt D' (128 * r + 8) (cC D s P j) = 128 * r + 8 + (cB D s P j).length ∧ (∀ i, i < cC D s P j → WB D' (bt D' (128 * r + 8) i)) ∧ fl (fun i => bRs D' (bB D s) (bt D' (128 * r + 8) i)) (cC D s P j) = kS D s P j
  | 0, _, _ => ⟨rfl, fun i hi => absurd hi (Nat.not_lt_zero i), rfl⟩
  | j + 1, hj, ha => by
    by_cases h0 : (kB D s (P j) j).length = 0
    · have e1 : cB D s P (j + 1) = cB D s P j := if_pos h0
      have e2 : cC D s P (j + 1) = cC D s P j := if_pos h0
      have e3 : kS D s P (j + 1) = kS D s P j := by
        show kS D s P j ++ kB D s (P j) j = _
        rw [List.length_eq_zero_iff.mp h0, List.append_nil]
      rw [e1] at ha ⊢
      rw [e2, e3]
      exact cB_back h P j (by omega) ha
    · have e1 : cB D s P (j + 1) = cB D s P j ++ eBt (nI (bB D s)) (nI (bP D (sb D s j))) (bS D (sb D s j)) (kB D s (P j) j) := if_neg h0
      have e2 : cC D s P (j + 1) = cC D s P j + 1 := if_neg h0
      rw [e1] at ha ⊢
      rw [e2]
      have ih := cB_back h P j (by omega) (At_l ha)
      have hb := At_r ha
      rw [← ih.1] at hb
      have h4 := (WS_b h (show j < c by omega)).2.1
      have h5 := kB_le D s (P j) j
      have hk := eBt_back2 (by omega) (by omega) (kB_gd h (by omega) (P j)) hb
      refine ⟨?_, fun i hi => ?_, ?_⟩
      · show nb D' (bt D' (128 * r + 8) (cC D s P j)) = _
        rw [hk.2.1, ih.1, List.length_append]
        omega
      · by_cases h6 : i = cC D s P j
        · rw [h6]
          exact hk.1
        · exact ih.2.1 i (by omega)
      · show fl _ (cC D s P j) ++ bRs D' (bB D s) (bt D' (128 * r + 8) (cC D s P j)) = kS D s P j ++ kB D s (P j) j
        rw [ih.2.2, hk.2.2]
theorem gB0_2 (l : List Nat) (a b : Nat) {i : Nat} (hi : 2 ≤ i) : gB0 ((l.set 0 a).set 1 b) i = gB0 l i := by
  unfold gB0
  simp [List.getElem?_set, show ¬ 1 = i by omega, show ¬ 0 = i by omega]
theorem hdr_len (m o g b : Nat) : (hdr m o g b).length = 8 := rfl
theorem gB0_h3 (x0 x1 x2 x3 x4 x5 x6 x7 : Nat) : gB0 [x0, x1, x2, x3, x4, x5, x6, x7] 3 = x3 := rfl
theorem gB0_h4 (x0 x1 x2 x3 x4 x5 x6 x7 : Nat) : gB0 [x0, x1, x2, x3, x4, x5, x6, x7] 4 = x4 := rfl
theorem gB0_h5 (x0 x1 x2 x3 x4 x5 x6 x7 : Nat) : gB0 [x0, x1, x2, x3, x4, x5, x6, x7] 5 = x5 := rfl
theorem gB0_h6 (x0 x1 x2 x3 x4 x5 x6 x7 : Nat) : gB0 [x0, x1, x2, x3, x4, x5, x6, x7] 6 = x6 := rfl
theorem gB0_h7 (x0 x1 x2 x3 x4 x5 x6 x7 : Nat) : gB0 [x0, x1, x2, x3, x4, x5, x6, x7] 7 = x7 := rfl
/-- the cleaned slot, read back -/
theorem cF_back {D D' : Nat → Nat} {s c r : Nat} (h : WS D s c) (P : Nat → Nat → Bool) (hbb : bB D s < 2 ^ 32) (hlen : (cT D s P c).length ≤ 128) (he : ∀ i, i < (cT D s P c).length → ¬ i = 2 → D' (128 * r + i) = gB0 (cF D s P c) i) : WS D' r (cC D s P c) ∧ bB D' r = bB D s ∧ sRs D' r (cC D s P c) = kS D s P c ∧ D' (128 * r + 3) = (gB D s + 1) % 256 := by
  have h8 := cT_8 D s P c
  have hx : ∀ i, 2 < i → i < (cT D s P c).length → D' (128 * r + i) = gB0 (cT D s P c) i := fun i h2 hi => by
    rw [he i hi (by omega)]
    exact gB0_2 _ _ _ (by omega)
  have hh : ∀ i, i < 8 → gB0 (cT D s P c) i = gB0 (hdr 0 0 (gB D s + 1) (bB D s)) i := fun i hi => by
    rw [cT_cB]
    exact gB0_app_l (by rw [hdr_len]; exact hi)
  have e0 : D' (128 * r) = (cT D s P c).length / 2 ^ 8 % 256 := by
    have h1 := he 0 (by omega) (by decide)
    rw [Nat.add_zero] at h1
    rw [h1]
    unfold cF
    rw [gB0_set (by rw [List.length_set]; omega), if_neg (by decide), gB0_set (by omega), if_pos rfl]
  have e1 : D' (128 * r + 1) = (cT D s P c).length % 256 := by
    rw [he 1 (by omega) (by decide)]
    unfold cF
    rw [gB0_set (by rw [List.length_set]; omega), if_pos rfl]
  have em : mB D' r = (cT D s P c).length := by
    show D' (128 * r) * 256 + D' (128 * r + 1) = _
    rw [e0, e1]
    generalize (cT D s P c).length = x at hlen
    omega
  have e3 : D' (128 * r + 3) = (gB D s + 1) % 256 := by
    rw [hx 3 (by decide) (by omega), hh 3 (by decide)]
    unfold hdr
    exact gB0_h3 _ _ _ _ _ _ _ _
  have e4 : D' (128 * r + 4) = bB D s / 2 ^ 24 % 256 := by
    rw [hx 4 (by decide) (by omega), hh 4 (by decide)]
    unfold hdr
    exact gB0_h4 _ _ _ _ _ _ _ _
  have e5 : D' (128 * r + 5) = bB D s / 2 ^ 16 % 256 := by
    rw [hx 5 (by decide) (by omega), hh 5 (by decide)]
    unfold hdr
    exact gB0_h5 _ _ _ _ _ _ _ _
  have e6 : D' (128 * r + 6) = bB D s / 2 ^ 8 % 256 := by
    rw [hx 6 (by decide) (by omega), hh 6 (by decide)]
    unfold hdr
    exact gB0_h6 _ _ _ _ _ _ _ _
  have e7 : D' (128 * r + 7) = bB D s / 2 ^ 0 % 256 := by
    rw [hx 7 (by decide) (by omega), hh 7 (by decide)]
    unfold hdr
    exact gB0_h7 _ _ _ _ _ _ _ _
  have eb : bB D' r = bB D s := by
    show D' (128 * r + 4) * 2 ^ 24 + D' (128 * r + 5) * 2 ^ 16 + D' (128 * r + 6) * 2 ^ 8 + D' (128 * r + 7) = bB D s
    rw [e4, e5, e6, e7]
    generalize bB D s = x at hbb
    omega
  have hl : (cT D s P c).length = 8 + (cB D s P c).length := by
    rw [cT_cB, List.length_append, hdr_len]
  have ha : At D' (128 * r + 8) (cB D s P c) := fun i hi => by
    rw [Nat.add_assoc, hx (8 + i) (by omega) (by omega), cT_cB]
    have h9 := gB0_app_r (a := hdr 0 0 (gB D s + 1) (bB D s)) (b := cB D s P c) i
    rw [hdr_len] at h9
    exact h9
  have hb := cB_back h P c (Nat.le_refl _) ha
  refine ⟨⟨by rw [em]; exact hlen, ?_, hb.2.1⟩, eb, ?_, e3⟩
  · rw [em, hb.1, hl]
    omega
  · unfold sRs sb
    rw [eb]
    exact hb.2.2
