/-! add and erase keep what holds. -/
theorem rgK_fr {S : DS} {I I' : Nat → Int32} {X : List Nat} (h : rgK S I) (f : Fr X I I') (hx : 0 ∉ X ∧ 1 ∉ X ∧ 2 ∉ X ∧ 3 ∉ X) : rgK S I' := ⟨(f 0 hx.1).trans h.1, fun q => Cc_fr f hx.2.1 hx.2.2.1 (h.2.1 q), (f 3 hx.2.2.2).trans h.2.2⟩
theorem rgM_fr {S : DS} {I I' : Nat → Int32} {X : List Nat} (h : rgM S I) (f : Fr X I I') (hx : 61 ∉ X ∧ 62 ∉ X ∧ 63 ∉ X) : rgM S I' := ⟨(f 61 hx.1).trans h.1, Cm_fr f hx.2.2 h.2.1, (f 62 hx.2.1).trans h.2.2⟩
theorem FM_fr2 {X Y : List Nat} {I I' : Nat → Int32} {A A' : Nat → Nat → Int32} {l : List R5} (h : FM I A l) (f : Fr X I I') (g : Fr Y A A') (hx : 69 ∉ X) (hy : 57 ∉ Y) : FM I' A' l := ⟨(f 69 hx).trans h.1, fun i hi => by rw [g 57 hy]; exact h.2 i hi⟩
/-- what the calls that leave disk, logs and knowledge alone keep -/
theorem ON_fr {k k' : Nat} {S : DS} {I I' : Nat → Int32} {A A' : Nat → Nat → Int32} {F : Nat → Nat → Nat} {bc c N : Nat → Nat} {X Y : List Nat} (h : ON k S I A F bc c N) (hk : k ≤ k') (f : Fr X I I') (g : Fr Y A A') (hx : ∀ r, 40 ≤ r → r < 52 → r ∉ X) (hy : (∀ r, 30 ≤ r → r < 46 → r ∉ Y) ∧ 1 ∉ Y ∧ 55 ∉ Y ∧ 56 ∉ Y) : ON k' S I' A' F bc c N := by
  obtain ⟨h1, h2, h3, ⟨a, ha⟩, ⟨cc, hc⟩⟩ := h
  refine ⟨h1, fun l hl => by have := h2 l hl; omega, fun l hl => LK_fr (h3 l hl) f g ⟨hx _ (by omega) (by omega), hx _ (by omega) (by omega), hx _ (by omega) (by omega)⟩ (hy.1 _ (by omega) (by omega)), ⟨a, fun l hl => ⟨KC_fr (ha l hl).1 g ⟨hy.1 _ (by omega) (by omega), hy.1 _ (by omega) (by omega), hy.1 _ (by omega) (by omega)⟩, KM_eq (ha l hl).2.1 (fun x _ _ => by rw [g 55 hy.2.2.1]), (ha l hl).2.2⟩⟩, ⟨cc, fun x hx' => ?_⟩⟩
  rw [g 1 hy.2.1, g 56 hy.2.2.2]
  exact hc x hx'
theorem offK_fr {I I' : Nat → Int32} {A A' : Nat → Nat → Int32} {X Y : List Nat} (h : offK I A) (f : Fr X I I') (g : Fr Y A A') (hx : 16 ∉ X ∧ 11 ∉ X ∧ ∀ r, 40 ≤ r → r < 52 → r ∉ X) (hy : (∀ r, 30 ≤ r → r < 46 → r ∉ Y) ∧ 1 ∉ Y) : offK I' A' := by
  refine ⟨(f 16 hx.1).trans h.1, (f 11 hx.2.1).trans h.2.1, fun k hk => by rw [g 1 hy.2]; exact h.2.2.1 k hk, fun i hi => ?_⟩
  have h1 := h.2.2.2 i hi
  refine ⟨(f _ (hx.2.2 _ (by omega) (by omega))).trans h1.1, (f _ (hx.2.2 _ (by omega) (by omega))).trans h1.2.1, (f _ (hx.2.2 _ (by omega) (by omega))).trans h1.2.2.1, fun p hp => ?_⟩
  rw [g _ (hy.1 _ (by omega) (by omega))]
  exact h1.2.2.2 p hp
theorem offM_fr {I I' : Nat → Int32} {A A' : Nat → Nat → Int32} {X Y : List Nat} (h : offM I A) (f : Fr X I I') (g : Fr Y A A') (hx : 69 ∉ X ∧ 70 ∉ X) (hy : 55 ∉ Y ∧ 56 ∉ Y) : offM I' A' := ⟨(f 69 hx.1).trans h.1, (f 70 hx.2).trans h.2.1, fun k hk => by rw [g 55 hy.1]; exact h.2.2.1 k hk, fun k hk => by rw [g 56 hy.2]; exact h.2.2.2 k hk⟩
theorem INV_d {k : Nat} {S : DS} {I I' : Nat → Int32} {A A' : Nat → Nat → Int32} {mk sn : Nat} {l : List R5} (h : INV k S I A mk sn) (f : Fr [28, 31, 60, 64] I I') (g : Fr [20, 21, 22, 23, 24, 25, 26, 27, 28, 29, 51] A A') (hl : l.length ≤ 4) (hgd : ∀ r ∈ l, gd r) (hB : BC (bi mk) I' A' l) (h64 : I' 64 = nI l.length) (hT : MT 51 A' l) : INV (k + 1) S I' A' mk sn := by
  obtain ⟨⟨k1, k2⟩, ⟨m1, m2⟩, hm, _, ⟨fl, f1, f2, f3⟩, h11, h53, hon, hoff⟩ := h
  refine ⟨⟨rgK_fr k1 f (by decide), by rw [g 0 (by decide)]; exact k2⟩, ⟨rgM_fr m1 f (by decide), by rw [g 50 (by decide)]; exact m2⟩, hm, ⟨l, hl, hgd, hB, h64, hT⟩, ⟨fl, f1, FC_fr f2 f g (by decide) (by decide) (by decide) (by decide) (by decide) (by decide), FM_fr2 f3 f g (by decide) (by decide)⟩, ((f 11 (by decide)).trans h11).trans (f 70 (by decide)).symm, ⟨by rw [g 53 (by decide)]; exact h53.1, by rw [g 53 (by decide)]; exact h53.2⟩, fun q => ?_, fun q => ?_⟩
  · obtain ⟨F, bc, c, N, ho⟩ := hon q
    exact ⟨F, bc, c, N, ON_fr ho (Nat.le_succ k) f g (fun r h1 h2 => by simp; omega) ⟨fun r h1 h2 => by simp; omega, by decide, by decide, by decide⟩⟩
  · obtain ⟨o1, o2, D1, w, F, bc, c, N, r1, r2, r3⟩ := hoff q
    exact ⟨offK_fr o1 f g ⟨by decide, by decide, fun r h1 h2 => by simp; omega⟩ ⟨fun r h1 h2 => by simp; omega, by decide⟩, offM_fr o2 f g (by decide) (by decide), D1, w, F, bc, c, N, r1, r2, fun l hl => by have := r3 l hl; omega⟩
/-- a call that answers, then the model's: the same answer, and all holds again -/
def two (mj : Nat) (mlm : mLs) (k n u : Nat) (J : Int64) (B : Nat → Int64) (L : Nat) (xs : Nat → Int32) (X : Nat → mC) : mO × mHp → Prop := fun o => ∃ v I1 A1 mk1 sn1, o = (.inl (some (.int v)), hS n u I1 A1 J B mk1 sn1 L xs X) ∧ mq mj 0 mlm [] (hS n u I1 A1 J B mk1 sn1 L xs X) (fun o2 => ∃ S2 I2 A2, o2 = (.inl (some (.int v)), hS n u I2 A2 J B mk1 sn1 L xs X) ∧ INV k S2 I2 A2 mk1 sn1)
theorem BC_s {b : Nat} {I I' : Nat → Int32} {A A' : Nat → Nat → Int32} {l : List R5} {v : R5} (h : BC b I A l) (hI : I' (22 + 3 * b) = nI (l.length + 1)) (e0 : A' (10 + 5 * b) = upd (A (10 + 5 * b)) l.length v.1) (e1 : A' (11 + 5 * b) = upd (A (11 + 5 * b)) l.length v.2.1) (e2 : A' (12 + 5 * b) = upd (A (12 + 5 * b)) l.length v.2.2.1) (e3 : A' (13 + 5 * b) = upd (A (13 + 5 * b)) l.length v.2.2.2.1) (e4 : A' (14 + 5 * b) = upd (A (14 + 5 * b)) l.length v.2.2.2.2) : BC b I' A' (l ++ [v]) := by
  have h1 : BT b I' A' (l ++ [v]) (I' (20 + 3 * b)) (I' (21 + 3 * b)) := BT_s (I := fun r => if r = 20 + 3 * b then I' (20 + 3 * b) else if r = 21 + 3 * b then I' (21 + 3 * b) else I r) ⟨if_pos rfl, (if_neg (by omega)).trans (if_pos rfl), ((if_neg (by omega)).trans (if_neg (by omega))).trans h.1, h.2⟩ (if_pos rfl).symm ((if_neg (by omega)).trans (if_pos rfl)).symm hI e0 e1 e2 e3 e4
  exact h1.2.2
theorem MT_s {A A' : Nat → Nat → Int32} {l : List R5} {v : R5} (h : MT 51 A l) (hl : l.length < 4) (e : A' 51 = upd (upd (upd (upd (A 51) (4 + l.length) v.2.1) (8 + l.length) v.2.2.1) (12 + l.length) v.2.2.2.1) (16 + l.length) v.2.2.2.2) : MT 51 A' (l ++ [v]) := fun k hk => by
  rw [List.length_append, List.length_singleton] at hk
  rw [e]
  by_cases hkl : k = l.length
  · subst hkl
    rw [gR_at]
    exact ⟨(pk_un (by omega)).trans ((pk_un (by omega)).trans ((pk_un (by omega)).trans pk_us)), (pk_un (by omega)).trans ((pk_un (by omega)).trans pk_us), (pk_un (by omega)).trans pk_us, pk_us⟩
  · have hk' : k < l.length := by omega
    rw [gR_lt hk']
    have h1 := h k hk'
    refine ⟨?_, ?_, ?_, ?_⟩
    · rw [pk_un (by omega), pk_un (by omega), pk_un (by omega), pk_un (by omega)]
      exact h1.1
    · rw [pk_un (by omega), pk_un (by omega), pk_un (by omega), pk_un (by omega)]
      exact h1.2.1
    · rw [pk_un (by omega), pk_un (by omega), pk_un (by omega), pk_un (by omega)]
      exact h1.2.2.1
    · rw [pk_un (by omega), pk_un (by omega), pk_un (by omega), pk_un (by omega)]
      exact h1.2.2.2
section S88
variable {n u : Nat} {I : Nat → Int32} {A : Nat → Nat → Int32} {J : Int64} {B : Nat → Int64} {mk sn L : Nat} {xs : Nat → Int32} {X : Nat → mC} {D : Nat → Nat} {S : DS} {k : Nat}
set_option maxRecDepth 100000 in
set_option maxHeartbeats 4000000 in
theorem op_add (h : INV k S I A mk sn) (t y v : Int32) : mq 11 0 [some (.ref 1), some (.int t), some (.int y), some (.int v)] [] (hS n u I A J B mk sn L xs X) (two 110 [some (.ref 67), some (.int t), some (.int y), some (.int v)] (k + 1) n u J B L xs X) := by
  have hi := h
  obtain ⟨_, _, hm, ⟨l, l4, lg, lB, l64, lT⟩, _⟩ := h
  rcases hm with ⟨rfl, rfl⟩ | ⟨rfl, rfl⟩
  · have lB53 : BC 2 I A l := lB
    refine k_11_53 (dn := l.length) lB53.1 l4 t y v (fun hlt I1 A1 f1 g1 a0 a1 a2 a3 a4 i1 => ?_) (fun he => ?_)
    · refine ⟨nI 1, I1, A1, 53, 60, rfl, ?_⟩
      refine k_110 (dn := l.length) ((f1 64 (by decide)).trans l64) l4 t y v (fun _ I2 A2 f2 g2 _ x64 x51 => ?_) (fun he => absurd he (by omega))
      refine ⟨S, I2, A2, rfl, INV_d (l := l ++ [(nI 0, t, y, v, nI 0)]) hi (Fr_cons (Fr_cons (Fr_refl _ I) f1 (by decide)) f2 (by decide)) (Fr_cons (Fr_cons (Fr_refl _ A) g1 (by decide)) g2 (by decide)) (by rw [List.length_append]; exact hlt) (fun r hr => ?_) ?_ ?_ ?_⟩
      · rcases List.mem_append.mp hr with h1 | h1
        · exact lg r h1
        · rw [List.mem_singleton.mp h1]
          exact Or.inl rfl
      · exact BC_s (b := 2) (I := I) (A := A) lB53 ((f2 28 (by decide)).trans i1) (by rw [g2 20 (by decide)]; exact a0) (by rw [g2 21 (by decide)]; exact a1) (by rw [g2 22 (by decide)]; exact a2) (by rw [g2 23 (by decide)]; exact a3) (by rw [g2 24 (by decide)]; exact a4)
      · rw [x64, List.length_append]
        rfl
      · refine MT_s (A := A) lT hlt ?_
        rw [x51, g1 51 (by decide)]
    · refine ⟨nI 0, I, A, 53, 60, rfl, ?_⟩
      refine k_110 (dn := l.length) l64 l4 t y v (fun hlt => absurd hlt (by omega)) (fun _ I2 f2 _ x64 => ?_)
      exact ⟨S, I2, A, rfl, INV_d (l := l) hi (Fr_cons (Fr_refl _ I) f2 (by decide)) (Fr_refl _ A) l4 lg ⟨(f2 28 (by decide)).trans lB53.1, lB53.2⟩ x64 lT⟩
  · have lB60 : BC 3 I A l := lB
    refine k_11_60 (dn := l.length) lB60.1 l4 t y v (fun hlt I1 A1 f1 g1 a0 a1 a2 a3 a4 i1 => ?_) (fun he => ?_)
    · refine ⟨nI 1, I1, A1, 60, 53, rfl, ?_⟩
      refine k_110 (dn := l.length) ((f1 64 (by decide)).trans l64) l4 t y v (fun _ I2 A2 f2 g2 _ x64 x51 => ?_) (fun he => absurd he (by omega))
      refine ⟨S, I2, A2, rfl, INV_d (l := l ++ [(nI 0, t, y, v, nI 0)]) hi (Fr_cons (Fr_cons (Fr_refl _ I) f1 (by decide)) f2 (by decide)) (Fr_cons (Fr_cons (Fr_refl _ A) g1 (by decide)) g2 (by decide)) (by rw [List.length_append]; exact hlt) (fun r hr => ?_) ?_ ?_ ?_⟩
      · rcases List.mem_append.mp hr with h1 | h1
        · exact lg r h1
        · rw [List.mem_singleton.mp h1]
          exact Or.inl rfl
      · exact BC_s (b := 3) (I := I) (A := A) lB60 ((f2 31 (by decide)).trans i1) (by rw [g2 25 (by decide)]; exact a0) (by rw [g2 26 (by decide)]; exact a1) (by rw [g2 27 (by decide)]; exact a2) (by rw [g2 28 (by decide)]; exact a3) (by rw [g2 29 (by decide)]; exact a4)
      · rw [x64, List.length_append]
        rfl
      · refine MT_s (A := A) lT hlt ?_
        rw [x51, g1 51 (by decide)]
    · refine ⟨nI 0, I, A, 60, 53, rfl, ?_⟩
      refine k_110 (dn := l.length) l64 l4 t y v (fun hlt => absurd hlt (by omega)) (fun _ I2 f2 _ x64 => ?_)
      exact ⟨S, I2, A, rfl, INV_d (l := l) hi (Fr_cons (Fr_refl _ I) f2 (by decide)) (Fr_refl _ A) l4 lg ⟨(f2 31 (by decide)).trans lB60.1, lB60.2⟩ x64 lT⟩
set_option maxRecDepth 100000 in
set_option maxHeartbeats 4000000 in
theorem op_erase (h : INV k S I A mk sn) (t y : Int32) : mq 13 0 [some (.ref 1), some (.int t), some (.int y)] [] (hS n u I A J B mk sn L xs X) (two 112 [some (.ref 67), some (.int t), some (.int y)] (k + 1) n u J B L xs X) := by
  have hi := h
  obtain ⟨_, _, hm, ⟨l, l4, lg, lB, l64, lT⟩, _⟩ := h
  rcases hm with ⟨rfl, rfl⟩ | ⟨rfl, rfl⟩
  · have lB53 : BC 2 I A l := lB
    refine k_13_53 (dn := l.length) lB53.1 l4 t y (fun hlt I1 A1 f1 g1 a0 a1 a2 a3 a4 i1 => ?_) (fun he => ?_)
    · refine ⟨nI 1, I1, A1, 53, 60, rfl, ?_⟩
      refine k_112 (dn := l.length) ((f1 64 (by decide)).trans l64) l4 t y (fun _ I2 A2 f2 g2 _ x64 x51 => ?_) (fun he => absurd he (by omega))
      refine ⟨S, I2, A2, rfl, INV_d (l := l ++ [(nI 0, t, y, nI 0, nI 1)]) hi (Fr_cons (Fr_cons (Fr_refl _ I) f1 (by decide)) f2 (by decide)) (Fr_cons (Fr_cons (Fr_refl _ A) g1 (by decide)) g2 (by decide)) (by rw [List.length_append]; exact hlt) (fun r hr => ?_) ?_ ?_ ?_⟩
      · rcases List.mem_append.mp hr with h1 | h1
        · exact lg r h1
        · rw [List.mem_singleton.mp h1]
          exact Or.inr ⟨rfl, rfl⟩
      · exact BC_s (b := 2) (I := I) (A := A) lB53 ((f2 28 (by decide)).trans i1) (by rw [g2 20 (by decide)]; exact a0) (by rw [g2 21 (by decide)]; exact a1) (by rw [g2 22 (by decide)]; exact a2) (by rw [g2 23 (by decide)]; exact a3) (by rw [g2 24 (by decide)]; exact a4)
      · rw [x64, List.length_append]
        rfl
      · refine MT_s (A := A) lT hlt ?_
        rw [x51, g1 51 (by decide)]
    · refine ⟨nI 0, I, A, 53, 60, rfl, ?_⟩
      refine k_112 (dn := l.length) l64 l4 t y (fun hlt => absurd hlt (by omega)) (fun _ I2 f2 _ x64 => ?_)
      exact ⟨S, I2, A, rfl, INV_d (l := l) hi (Fr_cons (Fr_refl _ I) f2 (by decide)) (Fr_refl _ A) l4 lg ⟨(f2 28 (by decide)).trans lB53.1, lB53.2⟩ x64 lT⟩
  · have lB60 : BC 3 I A l := lB
    refine k_13_60 (dn := l.length) lB60.1 l4 t y (fun hlt I1 A1 f1 g1 a0 a1 a2 a3 a4 i1 => ?_) (fun he => ?_)
    · refine ⟨nI 1, I1, A1, 60, 53, rfl, ?_⟩
      refine k_112 (dn := l.length) ((f1 64 (by decide)).trans l64) l4 t y (fun _ I2 A2 f2 g2 _ x64 x51 => ?_) (fun he => absurd he (by omega))
      refine ⟨S, I2, A2, rfl, INV_d (l := l ++ [(nI 0, t, y, nI 0, nI 1)]) hi (Fr_cons (Fr_cons (Fr_refl _ I) f1 (by decide)) f2 (by decide)) (Fr_cons (Fr_cons (Fr_refl _ A) g1 (by decide)) g2 (by decide)) (by rw [List.length_append]; exact hlt) (fun r hr => ?_) ?_ ?_ ?_⟩
      · rcases List.mem_append.mp hr with h1 | h1
        · exact lg r h1
        · rw [List.mem_singleton.mp h1]
          exact Or.inr ⟨rfl, rfl⟩
      · exact BC_s (b := 3) (I := I) (A := A) lB60 ((f2 31 (by decide)).trans i1) (by rw [g2 25 (by decide)]; exact a0) (by rw [g2 26 (by decide)]; exact a1) (by rw [g2 27 (by decide)]; exact a2) (by rw [g2 28 (by decide)]; exact a3) (by rw [g2 29 (by decide)]; exact a4)
      · rw [x64, List.length_append]
        rfl
      · refine MT_s (A := A) lT hlt ?_
        rw [x51, g1 51 (by decide)]
    · refine ⟨nI 0, I, A, 60, 53, rfl, ?_⟩
      refine k_112 (dn := l.length) l64 l4 t y (fun hlt => absurd hlt (by omega)) (fun _ I2 f2 _ x64 => ?_)
      exact ⟨S, I2, A, rfl, INV_d (l := l) hi (Fr_cons (Fr_refl _ I) f2 (by decide)) (Fr_refl _ A) l4 lg ⟨(f2 31 (by decide)).trans lB60.1, lB60.2⟩ x64 lT⟩
end S88
