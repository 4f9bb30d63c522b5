/-! Disks that can be recovered. -/
/-- four logs on a disk -/
def WFD (D : Nat → Nat) (F : Nat → Nat → Nat) (bc c N : Nat → Nat) : Prop := (∀ l, l < 4 → WL D l (F l) bc (c l) (N l)) ∧ ∀ s, s < 16 → oB D s ≤ 4
/-- the owner of slot o taken away -/
def ow0 (D : Nat → Nat) (o : Nat) : Nat → Nat := dW D (128 * o + 2) 1 (gB0 [0 / 2 ^ 0 % 256])
theorem ow0_o (D : Nat → Nat) (o t : Nat) : oB (ow0 D o) t = if t = o then 0 else oB D t := ow_o (v := 0) _ rfl
theorem ow0_b (D : Nat → Nat) (o t : Nat) : bB (ow0 D o) t = bB D t := (ow_hd _).2
theorem ow0_g (D : Nat → Nat) (o t : Nat) : gB (ow0 D o) t = gB D t := ow_x _ (by decide) (by decide)
theorem wr_ow0 {S : DS} {o : Nat} (h : NC S) : NC (wr1 S (owW o 0)) ∧ dD (wr1 S (owW o 0)) = ow0 (dD S) o := ⟨(NC_wr _ h).1, (NC_wr _ h).2.1⟩
/-- slot r is the same segment as slot o, made anew from it -/
def TW (D : Nat → Nat) (r o : Nat) : Prop := r < 16 ∧ o < 16 ∧ ¬ r = o ∧ ¬ oB D r = 0 ∧ oB D r = oB D o ∧ bB D r = bB D o ∧ gB D r = (gB D o + 1) % 2 ^ 8
theorem sc_WF {D : Nat → Nat} {F : Nat → Nat → Nat} {bc c N : Nat → Nat} (h : WFD D F bc c N) (hb : ∀ j, D j < 256) {s o : Nat} (hs : s < 16) (ho : o < 16) : sc D s o = false := decide_eq_false (fun q => by
  by_cases e : s = o
  · subst e
    have h1 := hb (128 * s + 3)
    have h2 := q.2.2.2
    unfold gB at h2
    omega
  · exact WL_dis h.1 h.2 s o hs ho e q.2.1 q.1 q.2.2.1)
theorem tw_WF {D : Nat → Nat} {F : Nat → Nat → Nat} {bc c N : Nat → Nat} (h : WFD D F bc c N) {s q : Nat} (hs : s < 16) (hq : q < s) : tw D s q = false := decide_eq_false (fun w => WL_dis h.1 h.2 s q hs (by omega) (by omega) w.2.1.symm (by omega) w.2.2.symm)
theorem dt1_skip {s : Nat} {S : DS} : ∀ z o, (∀ x, o ≤ x → x < o + z → sc (dD S) s x = false) → dt1 s z o S = S
  | 0, _, _ => rfl
  | z + 1, o, h => by
    show dt1 s z (o + 1) (if sc (dD S) s o = true then _ else S) = S
    rw [if_neg (by rw [h o (Nat.le_refl _) (by omega)]; decide)]
    exact dt1_skip z (o + 1) (fun x h1 h2 => h x (by omega) (by omega))
theorem dt1_hit {s x0 : Nat} {S : DS} : ∀ z o, o ≤ x0 → x0 < o + z → (∀ x, o ≤ x → x < x0 → sc (dD S) s x = false) → sc (dD S) s x0 = true → (∀ x, x0 < x → x < o + z → sc (dD (wr1 S (owW x0 0))) s x = false) → dt1 s z o S = wr1 S (owW x0 0)
  | 0, o, h1, h2, _, _, _ => by omega
  | z + 1, o, h1, h2, h3, h4, h5 => by
    show dt1 s z (o + 1) (if sc (dD S) s o = true then wr1 S (owW o 0) else S) = _
    by_cases e : o = x0
    · subst e
      rw [if_pos h4]
      exact dt1_skip z (o + 1) (fun x a b => h5 x (by omega) (by omega))
    · rw [if_neg (by rw [h3 o (Nat.le_refl _) (by omega)]; decide)]
      exact dt1_hit z (o + 1) (by omega) (by omega) (fun x a b => h3 x (by omega) b) h4 (fun x a b => h5 x a (by omega))
theorem dtA_skip {S : DS} : ∀ z s, s + z ≤ 16 → (∀ x y, x < 16 → y < 16 → sc (dD S) x y = false) → dtA z s S = S
  | 0, _, _, _ => rfl
  | z + 1, s, hz, h => by
    show dtA z (s + 1) (dt1 s 16 0 S) = S
    rw [dt1_skip 16 0 (fun x _ hx => h s x (by omega) (by omega))]
    exact dtA_skip z (s + 1) (by omega) h
theorem dtA_hit {S : DS} {r o : Nat} (ho : o < 16) (h1 : ∀ x y, x < 16 → y < 16 → ¬ (x = r ∧ y = o) → sc (dD S) x y = false) (h2 : sc (dD S) r o = true) (h3 : ∀ x y, x < 16 → y < 16 → sc (dD (wr1 S (owW o 0))) x y = false) : ∀ z s, s ≤ r → r < s + z → s + z ≤ 16 → dtA z s S = wr1 S (owW o 0)
  | 0, s, a, b, _ => by omega
  | z + 1, s, a, b, hz => by
    show dtA z (s + 1) (dt1 s 16 0 S) = _
    by_cases e : s = r
    · subst e
      rw [dt1_hit (x0 := o) 16 0 (Nat.zero_le _) (by omega) (fun x _ hx => h1 s x (by omega) (by omega) (by omega)) h2 (fun x hx hx2 => h3 s x (by omega) (by omega))]
      exact dtA_skip z (s + 1) (by omega) h3
    · rw [dt1_skip 16 0 (fun x _ hx => h1 s x (by omega) (by omega) (by omega))]
      exact dtA_hit ho h1 h2 h3 z (s + 1) (by omega) (by omega) (by omega)
theorem mt1_skip {s : Nat} {S : DS} : ∀ z q, (∀ x, q ≤ x → x < q + z → tw (dD S) s x = false) → mt1 s z q S = S
  | 0, _, _ => rfl
  | z + 1, q, h => by
    show mt1 s z (q + 1) (if tw (dD S) s q = true then _ else S) = S
    rw [if_neg (by rw [h q (Nat.le_refl _) (by omega)]; decide)]
    exact mt1_skip z (q + 1) (fun x h1 h2 => h x (by omega) (by omega))
theorem mt1_hit {s x0 o : Nat} {S : DS} (ht : (if gB (dD S) s = (gB (dD S) x0 + 1) % 2 ^ 8 then x0 else s) = o) : ∀ z q, q ≤ x0 → x0 < q + z → (∀ x, q ≤ x → x < x0 → tw (dD S) s x = false) → tw (dD S) s x0 = true → (∀ x, x0 < x → x < q + z → tw (dD (wr1 S (owW o 0))) s x = false) → mt1 s z q S = wr1 S (owW o 0)
  | 0, q, h1, h2, _, _, _ => by omega
  | z + 1, q, h1, h2, h3, h4, h5 => by
    show mt1 s z (q + 1) (if tw (dD S) s q = true then wr1 S (owW (if gB (dD S) s = (gB (dD S) q + 1) % 2 ^ 8 then q else s) 0) else S) = _
    by_cases e : q = x0
    · subst e
      rw [if_pos h4, ht]
      exact mt1_skip z (q + 1) (fun x a b => h5 x (by omega) (by omega))
    · rw [if_neg (by rw [h3 q (Nat.le_refl _) (by omega)]; decide)]
      exact mt1_hit ht z (q + 1) (by omega) (by omega) (fun x a b => h3 x (by omega) b) h4 (fun x a b => h5 x a (by omega))
theorem mtA_skip {S : DS} : ∀ z s, s + z ≤ 16 → (∀ x y, x < 16 → y < x → tw (dD S) x y = false) → mtA z s S = S
  | 0, _, _, _ => rfl
  | z + 1, s, hz, h => by
    show mtA z (s + 1) (mt1 s s 0 S) = S
    rw [mt1_skip s 0 (fun x _ hx => h s x (by omega) (by omega))]
    exact mtA_skip z (s + 1) (by omega) h
theorem mtA_hit {S : DS} {a b o : Nat} (hba : b < a) (ht : (if gB (dD S) a = (gB (dD S) b + 1) % 2 ^ 8 then b else a) = o) (h1 : ∀ x y, x < 16 → y < x → ¬ (x = a ∧ y = b) → tw (dD S) x y = false) (h2 : tw (dD S) a b = true) (h3 : ∀ x y, x < 16 → y < x → tw (dD (wr1 S (owW o 0))) x y = false) : ∀ z s, s ≤ a → a < s + z → s + z ≤ 16 → mtA z s S = wr1 S (owW o 0)
  | 0, s, p, q, _ => by omega
  | z + 1, s, p, q, hz => by
    show mtA z (s + 1) (mt1 s s 0 S) = _
    by_cases e : s = a
    · subst e
      rw [mt1_hit ht s 0 (Nat.zero_le _) (by omega) (fun x _ hx => h1 s x (by omega) (by omega) (by omega)) h2 (fun x hx hx2 => h3 s x (by omega) (by omega))]
      exact mtA_skip z (s + 1) (by omega) h3
    · rw [mt1_skip s 0 (fun x _ hx => h1 s x (by omega) (by omega) (by omega))]
      exact mtA_hit hba ht h1 h2 h3 z (s + 1) (by omega) (by omega) (by omega)
/-- no third slot is the same segment -/
theorem TW_only {D : Nat → Nat} {F : Nat → Nat → Nat} {bc c N : Nat → Nat} {r o : Nat} (ht : TW D r o) (h : WFD (ow0 D o) F bc c N) {s t : Nat} (hs : s < 16) (ht16 : t < 16) (hst : ¬ s = t) (h1 : oB D s = oB D t) (h0 : ¬ oB D s = 0) (h2 : bB D s = bB D t) : (s = r ∧ t = o) ∨ (s = o ∧ t = r) := by
  have dis := WL_dis h.1 h.2
  have key : ∀ x y, x < 16 → y < 16 → ¬ x = y → ¬ x = o → ¬ y = o → oB D x = oB D y → ¬ oB D x = 0 → ¬ bB D x = bB D y := fun x y hx hy hxy hxo hyo e1 e0 e2 => by
    refine dis x y hx hy hxy ?_ ?_ ?_
    · rw [ow0_o, ow0_o, if_neg hxo, if_neg hyo]
      exact e1
    · rw [ow0_o, if_neg hxo]
      exact e0
    · rw [ow0_b, ow0_b]
      exact e2
  by_cases hso : s = o
  · right
    refine ⟨hso, Decidable.byContradiction (fun htr => ?_)⟩
    exact key t r ht16 ht.1 htr (fun q => hst (hso.trans q.symm)) ht.2.2.1 (by rw [← h1, hso, ht.2.2.2.2.1]) (by rw [← h1]; exact h0) (by rw [← h2, hso, ht.2.2.2.2.2.1])
  · by_cases hto : t = o
    · left
      refine ⟨Decidable.byContradiction (fun hsr => ?_), hto⟩
      exact key s r hs ht.1 hsr hso ht.2.2.1 (by rw [h1, hto, ht.2.2.2.2.1]) h0 (by rw [h2, hto, ht.2.2.2.2.2.1])
    · exact absurd h2 (key s t hs ht16 hst hso hto h1 h0)
/-- a disk that a recovery makes well-formed -/
def ROK (D : Nat → Nat) (D1 : Nat → Nat) (w : Nat) : Prop := (D1 = D ∧ w = 0) ∨ ∃ r o, TW D r o ∧ D1 = ow0 D o ∧ w = 1
theorem rec_same {S : DS} {D1 : Nat → Nat} {w : Nat} {F : Nat → Nat → Nat} {bc c N : Nat → Nat} (hN : NC S) (hb : ∀ j, dD S j < 256) (h : WFD D1 F bc c N) (hr : ROK (dD S) D1 w) : dtA 16 0 S = mtA 16 0 S ∧ dD (dtA 16 0 S) = D1 ∧ NC (dtA 16 0 S) := by
  rcases hr with ⟨e, _⟩ | ⟨r, o, ht, e, _⟩
  · subst e
    have e1 := dtA_skip (S := S) 16 0 (Nat.le_refl _) (fun x y hx hy => sc_WF h hb hx hy)
    have e2 := mtA_skip (S := S) 16 0 (Nat.le_refl _) (fun x y hx hy => tw_WF h hx hy)
    rw [e1, e2]
    exact ⟨rfl, rfl, hN⟩
  · subst e
    have hw := wr_ow0 (o := o) hN
    have hb1 : ∀ j, dD (wr1 S (owW o 0)) j < 256 := fun j => by
      rw [hw.2]
      show dW (dD S) (128 * o + 2) 1 _ j < 256
      unfold dW
      split
      · exact gB0_by (by simp) _
      · exact hb j
    have hg : ∀ x, gB (dD S) x < 256 := fun x => hb _
    have n1 : ∀ x y, x < 16 → y < 16 → ¬ (x = r ∧ y = o) → sc (dD S) x y = false := fun x y hx hy hxy => decide_eq_false (fun q => by
      by_cases e : x = y
      · subst e
        have h1 := hg x
        have h2 := q.2.2.2
        omega
      · rcases TW_only ht h hx hy e q.2.1 q.1 q.2.2.1 with h1 | h1
        · exact hxy h1
        · have h2 := q.2.2.2
          have h3 := ht.2.2.2.2.2.2
          rw [h1.1, h1.2] at h2
          have h4 := hg o
          omega)
    have n2 : sc (dD S) r o = true := decide_eq_true ⟨ht.2.2.2.1, ht.2.2.2.2.1, ht.2.2.2.2.2.1, ht.2.2.2.2.2.2⟩
    have n3 : ∀ x y, x < 16 → y < 16 → sc (dD (wr1 S (owW o 0))) x y = false := fun x y hx hy => by
      rw [hw.2]
      exact sc_WF h (by rw [← hw.2]; exact hb1) hx hy
    have m3 : ∀ x y, x < 16 → y < x → tw (dD (wr1 S (owW o 0))) x y = false := fun x y hx hy => by
      rw [hw.2]
      exact tw_WF h hx hy
    have e1 := dtA_hit ht.2.1 n1 n2 n3 16 0 (Nat.zero_le _) (by have := ht.1; omega) (Nat.le_refl _)
    have e2 : mtA 16 0 S = wr1 S (owW o 0) := by
      have hT := ht
      obtain ⟨hr, ho, hne, h0, h1, h2, h3⟩ := hT
      rcases Nat.lt_or_gt_of_ne hne with hlt | hgt
      · refine mtA_hit (a := o) (b := r) hlt ?_ (fun x y hx hy hxy => decide_eq_false (fun q => ?_)) (decide_eq_true ⟨by omega, h1, h2⟩) m3 16 0 (Nat.zero_le _) (by omega) (Nat.le_refl _)
        · have h4 := hg o
          rw [if_neg (by omega)]
        · rcases TW_only ht h hx (by omega) (by omega) q.2.1.symm (by omega) q.2.2.symm with h5 | h5
          · omega
          · exact hxy h5
      · refine mtA_hit (a := r) (b := o) hgt (if_pos h3) (fun x y hx hy hxy => decide_eq_false (fun q => ?_)) (decide_eq_true ⟨by omega, h1.symm, h2.symm⟩) m3 16 0 (Nat.zero_le _) (by omega) (Nat.le_refl _)
        rcases TW_only ht h hx (by omega) (by omega) q.2.1.symm (by omega) q.2.2.symm with h5 | h5
        · exact hxy h5
        · omega
    rw [e1, e2]
    exact ⟨rfl, hw.2, hw.1⟩
