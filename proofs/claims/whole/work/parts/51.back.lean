/-! What was written is read back. -/
/-- the bytes l stand at q -/
def At (D : Nat → Nat) (q : Nat) (l : List Nat) : Prop := ∀ i, i < l.length → D (q + i) = gB0 l i
theorem gB0_app_l {a b : List Nat} {i : Nat} (h : i < a.length) : gB0 (a ++ b) i = gB0 a i := by
  simp [gB0, List.getElem?_append_left h]
theorem gB0_app_r {a b : List Nat} (i : Nat) : gB0 (a ++ b) (a.length + i) = gB0 b i := by
  simp [gB0, List.getElem?_append_right (Nat.le_add_right a.length i)]
theorem At_l {D : Nat → Nat} {q : Nat} {a b : List Nat} (h : At D q (a ++ b)) : At D q a := fun i hi => by
  rw [h i (by rw [List.length_append]; omega), gB0_app_l hi]
theorem At_r {D : Nat → Nat} {q : Nat} {a b : List Nat} (h : At D q (a ++ b)) : At D (q + a.length) b := fun i hi => by
  rw [Nat.add_assoc, h (a.length + i) (by rw [List.length_append]; omega), gB0_app_r]
theorem At_h {D : Nat → Nat} {q x : Nat} {t : List Nat} (h : At D q (x :: t)) : D q = x := h 0 (Nat.zero_lt_succ _)
theorem At_t {D : Nat → Nat} {q x : Nat} {t : List Nat} (h : At D q (x :: t)) : At D (q + 1) t := fun i hi => by
  have h1 := h (i + 1) (Nat.succ_lt_succ hi)
  rw [Nat.add_assoc, Nat.add_comm 1 i, h1]
  rfl
theorem vL_back {D : Nat → Nat} : ∀ f q m, m < 2 ^ (4 + 7 * f) → At D q (vE f m) → vL D (f + 1) q = (vE f m).length
  | 0, q, m, hm, h => by
    have h1 : D q = m % 256 := At_h h
    show (if D q < 128 then 1 else _) = 1
    rw [if_pos (by omega)]
  | f + 1, q, m, hm, h => by
    have hq : m / 128 < 2 ^ (4 + 7 * f) := by
      have e : 2 ^ (4 + 7 * (f + 1)) = 2 ^ (4 + 7 * f) * 128 := by rw [show 4 + 7 * (f + 1) = 4 + 7 * f + 7 by omega, Nat.pow_add]
      rw [e] at hm
      exact Nat.div_lt_of_lt_mul (by rw [Nat.mul_comm]; exact hm)
    by_cases hz : m / 128 = 0
    · have e : vE (f + 1) m = [m % 256] := if_pos hz
      rw [e] at h ⊢
      have h1 : D q = m % 256 := At_h h
      show (if D q < 128 then 1 else _) = 1
      rw [if_pos (by omega)]
    · have e : vE (f + 1) m = (m % 128 + 128) :: vE f (m / 128) := if_neg hz
      rw [e] at h ⊢
      have h1 := At_h h
      have h2 := vL_back f (q + 1) (m / 128) hq (At_t h)
      show (if D q < 128 then 1 else 1 + vL D (f + 1) (q + 1)) = (vE f (m / 128)).length + 1
      rw [if_neg (by omega), h2, Nat.add_comm]
theorem vX_step (d s y : Nat) (hs : s ≤ 28) (hd : d % 128 * 2 ^ s < 2 ^ 32) (hdd : d < 256) (hy : y < 2 ^ s) : nI y ||| ((nI d &&& 127) <<< (nI s &&& 31)) = nI (y + d % 128 * 2 ^ s) := by
  have h1 : nI d &&& 127 = nI (d % 2 ^ 7) := pk_andN (by omega) 7 (by decide)
  have h2 : nI (d % 2 ^ 7) <<< (nI s &&& 31) = nI (d % 2 ^ 7 * 2 ^ s) := by
    refine pk_shlN _ s ?_ hd
    have h3 : nI s &&& 31 = nI (s % 2 ^ 5) := pk_andN (by omega) 5 (by decide)
    rw [h3, Nat.mod_eq_of_lt (by omega)]
    have h4 : ∀ r : Fin 29, ((nI r.val).toBitVec.smod 32).toNat = r.val := by decide
    exact h4 ⟨s, by omega⟩
  rw [h1, h2, Int32.or_comm, nI_oradd hy, Nat.add_comm]
theorem vX_back {D : Nat → Nat} : ∀ f q m s y, s + 7 * f = 28 → m < 2 ^ (4 + 7 * f) → y < 2 ^ s → At D q (vE f m) → vX D (f + 1) q s (nI y) = nI (y + m * 2 ^ s)
  | 0, q, m, s, y, hs, hm, hy, h => by
    have h1 : D q = m % 256 := At_h h
    have hm' : m < 16 := hm
    have e : m % 256 = m := Nat.mod_eq_of_lt (by omega)
    have hs' : s = 28 := by omega
    subst hs'
    show (if D q < 128 then nI y ||| ((nI (D q) &&& 127) <<< (nI 28 &&& 31)) else _) = _
    rw [if_pos (by omega), h1, e, vX_step m 28 y (by omega) (by omega) (by omega) hy, Nat.mod_eq_of_lt (by omega)]
  | f + 1, q, m, s, y, hs, hm, hy, h => by
    have hP : 2 ^ (s + 7) = 2 ^ s * 128 := Nat.pow_add 2 s 7
    have hP2 : 2 ^ s * 128 ≤ 2 ^ 28 := by
      rw [← hP]
      exact Nat.pow_le_pow_right (by decide) (by omega)
    have hlt : ∀ d, d % 128 * 2 ^ s < 2 ^ 28 := by
      intro d
      have h1 : d % 128 * 2 ^ s ≤ 127 * 2 ^ s := Nat.mul_le_mul_right _ (by omega)
      have h2 : 0 < 2 ^ s := Nat.two_pow_pos s
      omega
    by_cases hz : m / 128 = 0
    · have e : vE (f + 1) m = [m % 256] := if_pos hz
      rw [e] at h
      have h1 : D q = m % 256 := At_h h
      have e2 : m % 256 = m := Nat.mod_eq_of_lt (by omega)
      show (if D q < 128 then nI y ||| ((nI (D q) &&& 127) <<< (nI s &&& 31)) else _) = _
      have h3 := hlt m
      rw [if_pos (by omega), h1, e2, vX_step m s y (by omega) (by omega) (by omega) hy, Nat.mod_eq_of_lt (by omega)]
    · have e : vE (f + 1) m = (m % 128 + 128) :: vE f (m / 128) := if_neg hz
      rw [e] at h
      have h1 := At_h h
      have hq : m / 128 < 2 ^ (4 + 7 * f) := by
        have e : 2 ^ (4 + 7 * (f + 1)) = 2 ^ (4 + 7 * f) * 128 := by rw [show 4 + 7 * (f + 1) = 4 + 7 * f + 7 by omega, Nat.pow_add]
        rw [e] at hm
        exact Nat.div_lt_of_lt_mul (by rw [Nat.mul_comm]; exact hm)
      have hy2 : y + m % 128 * 2 ^ s < 2 ^ (s + 7) := by
        have h2 : m % 128 * 2 ^ s ≤ 127 * 2 ^ s := Nat.mul_le_mul_right _ (by omega)
        omega
      have h2 := vX_back f (q + 1) (m / 128) (s + 7) (y + m % 128 * 2 ^ s) (by omega) hq hy2 (At_t h)
      show (if D q < 128 then _ else vX D (f + 1) (q + 1) (s + 7) (nI y ||| ((nI (D q) &&& 127) <<< (nI s &&& 31)))) = _
      have h3 := hlt (D q)
      have e5 : D q % 128 = m % 128 := by omega
      rw [if_neg (by omega), vX_step (D q) s y (by omega) (by omega) (by omega) hy, e5, h2, hP]
      refine congrArg nI ?_
      have e3 : m * 2 ^ s = m % 128 * 2 ^ s + m / 128 * (2 ^ s * 128) := by
        conv => lhs; rw [← Nat.mod_add_div m 128]
        rw [Nat.add_mul, Nat.mul_comm (2 ^ s) 128, ← Nat.mul_assoc, Nat.mul_comm (m / 128) 128]
      omega
theorem lV_back {D : Nat → Nat} {q m : Nat} (hm : m < 2 ^ 32) (h : At D q (vE 4 m)) : lV D q = (vE 4 m).length := vL_back 4 q m hm h
theorem rV_back {D : Nat → Nat} {q m : Nat} (hm : m < 2 ^ 32) (h : At D q (vE 4 m)) : rV D q = nI m := by
  have h1 := vX_back 4 q m 0 0 rfl hm (by decide) h
  have e : rV D q = vX D 5 q 0 (nI 0) := rfl
  rw [e, h1, Nat.zero_add, Nat.pow_zero, Nat.mul_one]
theorem zN_lt (x : Int32) : zN x < 2 ^ 32 := uN_lt _
/-- a record read back -/
theorem eR_back {D : Nat → Nat} {q : Nat} {f r : R5} (hd : b8 r.2.2.2.2 = 0 ↔ r.2.2.2.2 = 0) (h : At D q (eR f r)) : rl D q = (eR f r).length ∧ rO D q = r.1 - f.1 ∧ rK D q = uz (nI (zN r.2.2.1)) ∧ rDl D q = b8 r.2.2.2.2 := by
  have a1 : At D q (vE 4 (uN (r.1 - f.1))) := At_l h
  have h1 := At_r h
  have a2 := At_l h1
  have h2 := At_r h1
  have a3 := At_l h2
  have h3 := At_r h2
  have l1 := lV_back (uN_lt _) a1
  have l2 := lV_back (zN_lt _) a2
  have l3 := lV_back (zN_lt _) a3
  have v1 := rV_back (uN_lt _) a1
  have v3 := rV_back (zN_lt _) a3
  have e1 : rl1 D q = (vE 4 (uN (r.1 - f.1))).length := l1
  have e2 : rl2 D q = (vE 4 (uN (r.1 - f.1))).length + (vE 4 (zN (r.2.1 - f.2.1))).length := by
    unfold rl2
    rw [e1]
    exact congrArg _ l2
  have e3 : rl3 D q = (vE 4 (uN (r.1 - f.1))).length + (vE 4 (zN (r.2.1 - f.2.1))).length + (vE 4 (zN r.2.2.1)).length := by
    unfold rl3
    rw [e2, ← Nat.add_assoc]
    exact congrArg _ l3
  have e4 : rDl D q = b8 r.2.2.2.2 := by
    unfold rDl
    rw [e3, ← Nat.add_assoc, ← Nat.add_assoc]
    exact At_h h3
  refine ⟨?_, ?_, ?_, e4⟩
  · unfold rl
    rw [e4]
    by_cases hz : r.2.2.2.2 = 0
    · rw [if_pos (hd.mpr hz)]
      have h4 := At_t h3
      rw [if_pos hz] at h4
      have l4 := lV_back (zN_lt _) h4
      have e5 : (eR f r).length = (vE 4 (uN (r.1 - f.1))).length + ((vE 4 (zN (r.2.1 - f.2.1))).length + ((vE 4 (zN r.2.2.1)).length + ((vE 4 (zN r.2.2.2.1)).length + 1))) := by
        unfold eR
        rw [if_pos hz]
        simp only [List.length_append, List.length_cons]
      rw [e3, e5, ← Nat.add_assoc q, ← Nat.add_assoc q, l4]
      omega
    · rw [if_neg (fun q => hz (hd.mp q))]
      have e5 : (eR f r).length = (vE 4 (uN (r.1 - f.1))).length + ((vE 4 (zN (r.2.1 - f.2.1))).length + ((vE 4 (zN r.2.2.1)).length + 1)) := by
        unfold eR
        rw [if_neg hz]
        simp only [List.length_append, List.length_cons, List.length_nil]
      rw [e3, e5]
      omega
  · unfold rO
    rw [v1]
    exact nI_uN _
  · unfold rK
    rw [e2, ← Nat.add_assoc, v3]
/-- the records of a batch read back -/
theorem eRs_back {D : Nat → Nat} {f : R5} {q : Nat} : ∀ (l : List R5) (k : Nat), (∀ r ∈ l, b8 r.2.2.2.2 = 0 ↔ r.2.2.2.2 = 0) → At D (rq D q k) (eRs f l) → (rq D q (k + l.length) = rq D q k + (eRs f l).length) ∧ ∀ j, j < l.length → rO D (rq D q (k + j)) = (gR l j).1 - f.1 ∧ rK D (rq D q (k + j)) = uz (nI (zN (gR l j).2.2.1)) ∧ rDl D (rq D q (k + j)) = b8 (gR l j).2.2.2.2
  | [], k, _, _ => ⟨rfl, fun j hj => absurd hj (Nat.not_lt_zero j)⟩
  | r :: t, k, hd, h => by
    have h1 := eR_back (hd r (List.mem_cons_self ..)) (At_l h)
    have e : rq D q (k + 1) = rq D q k + (eR f r).length := by
      show rq D q k + rl D (rq D q k) = _
      rw [h1.1]
    have h2 := eRs_back t (k + 1) (fun x hx => hd x (List.mem_cons_of_mem _ hx)) (by rw [e]; exact At_r h)
    refine ⟨?_, fun j hj => ?_⟩
    · rw [List.length_cons, show k + (t.length + 1) = k + 1 + t.length by omega, h2.1, e]
      show _ = _ + (eR f r ++ eRs f t).length
      rw [List.length_append]
      omega
    · cases j with
      | zero => exact h1.2
      | succ j =>
        have h3 := h2.2 j (Nat.lt_of_succ_lt_succ hj)
        rw [show k + 1 + j = k + (j + 1) by omega] at h3
        exact h3
/-- a batch read back -/
theorem eBt_back {D : Nat → Nat} {q b : Nat} {p s : Int32} {l : List R5} (hl1 : 1 ≤ l.length) (hl4 : l.length ≤ 4) (hd : ∀ r ∈ l, b8 r.2.2.2.2 = 0 ↔ r.2.2.2.2 = 0) (h : At D q (eBt (nI b) p s l)) : bN D q = l.length ∧ nb D q = q + (eBt (nI b) p s l).length ∧ rq D q l.length = nb D q ∧ bP D q = b8 p ∧ bS D q = s ∧ ∀ k, k < l.length → oR D b q k = (gR l k).1 ∧ kR D q k = uz (nI (zN (gR l k).2.2.1)) ∧ dR D q k = b8 (gR l k).2.2.2.2 := by
  have h0 := At_h h
  have hc := At_t h
  have a1 := At_l hc
  have h1 := At_r hc
  have a2 := At_l h1
  have h2 := At_r h1
  have e3 := At_h h2
  have h3 := At_t h2
  have a4 := At_l h3
  have h4 := At_r h3
  have e5 := At_h h4
  have h5 := At_t h4
  have l1 := lV_back (uN_lt _) a1
  have l2 := lV_back (zN_lt _) a2
  have l4 := lV_back (uN_lt _) a4
  have p2 : bp2 D q = q + 1 + (vE 4 (uN ((gR l 0).1 - nI b))).length := by
    unfold bp2
    rw [l1]
  have p3 : bp3 D q = q + 1 + (vE 4 (uN ((gR l 0).1 - nI b))).length + (vE 4 (zN (gR l 0).2.1)).length := by
    unfold bp3
    rw [p2, l2]
  have p5 : bp5 D q = q + 1 + (vE 4 (uN ((gR l 0).1 - nI b))).length + (vE 4 (zN (gR l 0).2.1)).length + 1 + (vE 4 (uN s)).length := by
    unfold bp5
    rw [p3, l4]
  have eN : bN D q = l.length := by
    unfold bN
    rw [p5, e5, Nat.mod_eq_of_lt (by omega)]
  have r0 : rq D q 0 = q + 1 + (vE 4 (uN ((gR l 0).1 - nI b))).length + (vE 4 (zN (gR l 0).2.1)).length + 1 + (vE 4 (uN s)).length + 1 := by
    show bp5 D q + 1 = _
    rw [p5]
  have hR := eRs_back l 0 hd (by rw [r0]; exact h5)
  have hlen := eCn_len (nI b) p s l
  have hlc : (eCn (nI b) p s l).length = (vE 4 (uN ((gR l 0).1 - nI b))).length + ((vE 4 (zN (gR l 0).2.1)).length + ((vE 4 (uN s)).length + ((eRs (gR l 0) l).length + 1) + 1)) := by
    unfold eCn
    simp only [List.length_append, List.length_cons]
  have hb : (eBt (nI b) p s l).length = (eCn (nI b) p s l).length + 1 := rfl
  have hnb : nb D q = q + (eBt (nI b) p s l).length := by
    unfold nb
    rw [h0, Nat.mod_eq_of_lt (by omega), hb]
    omega
  refine ⟨eN, hnb, ?_, ?_, ?_, fun k hk => ?_⟩
  · have h6 := hR.1
    rw [Nat.zero_add] at h6
    rw [h6, hnb, r0, hb, hlc]
    omega
  · unfold bP
    rw [p3]
    exact e3
  · unfold bS
    rw [p3, rV_back (uN_lt _) a4, nI_uN]
  · have h6 := hR.2 k hk
    rw [Nat.zero_add] at h6
    refine ⟨?_, h6.2.1, h6.2.2⟩
    unfold oR bO
    rw [h6.1, rV_back (uN_lt _) a1, nI_uN]
    have key : ∀ x y z : Int32, x + (y - x) + (z - y) = z := by
      intro x y z
      rw [Int32.add_comm x, Int32.sub_add_cancel, Int32.add_comm, Int32.sub_add_cancel]
    exact key _ _ _
theorem uz_key {k : Nat} (h : k < 32) : uz (nI (zN (nI k))) = nI k := by
  have h1 : ∀ r : Fin 32, uz (nI (zN (nI r.val))) = nI r.val := by decide
  exact h1 ⟨k, h⟩
