/-! Append, or refuse: the class. -/
theorem BT_fr2 {b : Nat} {SI SA : List Nat} {I I' : Nat → Int32} {A A' : Nat → Nat → Int32} {l : List R5} {p s : Int32} (h : BT b I A l p s) (f : Fr SI I I') (g : Fr SA A A') (hi : 20 + 3 * b ∉ SI ∧ 21 + 3 * b ∉ SI ∧ 22 + 3 * b ∉ SI) (ha : 10 + 5 * b ∉ SA ∧ 11 + 5 * b ∉ SA ∧ 12 + 5 * b ∉ SA ∧ 13 + 5 * b ∉ SA ∧ 14 + 5 * b ∉ SA) : BT b I' A' l p s := by
  refine ⟨(f _ hi.1).trans h.1, (f _ hi.2.1).trans h.2.1, (f _ hi.2.2).trans h.2.2.1, fun k hk => ?_⟩
  rw [g _ ha.1, g _ ha.2.1, g _ ha.2.2.1, g _ ha.2.2.2.1, g _ ha.2.2.2.2]
  exact h.2.2.2 k hk
/-- the first free slot as a Nat -/
def frN (D : Nat → Nat) : Nat → Nat → Nat
  | 0, i => i
  | m + 1, i => if oB D i = 0 then i else frN D m (i + 1)
theorem frN_spec (D : Nat → Nat) : ∀ m i, (frS D m i = -1 ∧ ∀ s, i ≤ s → s < i + m → ¬ oB D s = 0) ∨ (frS D m i = nI (frN D m i) ∧ i ≤ frN D m i ∧ frN D m i < i + m ∧ oB D (frN D m i) = 0)
  | 0, i => Or.inl ⟨rfl, fun s h1 h2 => by omega⟩
  | m + 1, i => by
    by_cases h : oB D i = 0
    · refine Or.inr ⟨?_, ?_, ?_, ?_⟩
      · show (if oB D i = 0 then nI i else _) = nI (if oB D i = 0 then i else _)
        rw [if_pos h, if_pos h]
      · show i ≤ (if oB D i = 0 then i else _)
        rw [if_pos h]
        exact Nat.le_refl i
      · show (if oB D i = 0 then i else _) < _
        rw [if_pos h]
        omega
      · show oB D (if oB D i = 0 then i else _) = 0
        rw [if_pos h]
        exact h
    · have e1 : frS D (m + 1) i = frS D m (i + 1) := if_neg h
      have e2 : frN D (m + 1) i = frN D m (i + 1) := if_neg h
      rcases frN_spec D m (i + 1) with ⟨h1, h2⟩ | ⟨h1, h2, h3, h4⟩
      · refine Or.inl ⟨e1.trans h1, fun s hs1 hs2 => ?_⟩
        by_cases hs : s = i
        · rw [hs]
          exact h
        · exact h2 s (by omega) (by omega)
      · rw [e1, e2]
        exact Or.inr ⟨h1, by omega, by omega, h4⟩
theorem nI_m1 {s : Nat} (h : s < 16) : ¬ nI s = -1 := by
  intro e
  have h1 : ∀ r : Fin 16, ¬ nI r.val = -1 := by decide
  exact h1 ⟨s, h⟩ e
/-- what becomes of the disk, of the log's slots and of their number when the batch l is appended; none: it is refused -/
def apS (S : DS) (i : Nat) (f : Nat → Nat) (cn N : Nat) (p q : Int32) (l : List R5) : Option (DS × (Nat → Nat) × Nat) :=
  if 0 < cn ∧ mB (dD S) (f (cn - 1)) + (eBt (nI (bB (dD S) (f (cn - 1)))) p q l).length ≤ 128 then some (wrs S (apW (f (cn - 1)) (mB (dD S) (f (cn - 1))) (eBt (nI (bB (dD S) (f (cn - 1)))) p q l)), f, cn)
  else if frS (dD S) 16 0 = -1 then none
  else some (wrs S (hdW (frN (dD S) 16 0) i N :: apW (frN (dD S) 16 0) 8 (eBt (nI N) p q l)), (fun k => if k = cn then frN (dD S) 16 0 else f k), cn + 1)
section S54
variable {n u : Nat} {I : Nat → Int32} {A : Nat → Nat → Int32} {J : Int64} {B : Nat → Int64} {mk sn L : Nat} {xs : Nat → Int32} {X : Nat → mC} {D : Nat → Nat} 
set_option maxRecDepth 100000 in
set_option maxHeartbeats 4000000 in
theorem k_63a_0_2 {cn N : Nat} {f : Nat → Nat} {l : List R5} {p q : Int32} {S : DS} (hD : kD mk S I A) (ho : dO S = false) (hmk : mks mk sn) (hn : 77 ≤ n ∧ n < 10000) (hu : u + 6 < 1000000) (hcn : cn ≤ 16) (hc : I 40 = nI cn) (hf : ∀ k, k < cn → f k < 16) (hsl : ∀ j, j < cn → A 30 j = nI (f j)) (hN : I 42 = nI N) (hNb : N + 4 < 2 ^ 31) (hB : BT 2 I A l p q) (hl1 : 1 ≤ l.length) (hl4 : l.length ≤ 4) (hp : 0 < cn) (hfit : mB (dD S) (f (cn - 1)) + (eBt (nI (bB (dD S) (f (cn - 1)))) p q (nmb N l)).length ≤ 128) {Q : mO × mHp → Prop} (kk : dO (wrs S (apW (f (cn - 1)) (mB (dD S) (f (cn - 1))) (eBt (nI (bB (dD S) (f (cn - 1)))) p q (nmb N l)))) = false → ∀ I' A', Fr [2, 3, 14, 15, 42] I I' → Fr [0, 3, 4, 20] A A' → kD mk (wrs S (apW (f (cn - 1)) (mB (dD S) (f (cn - 1))) (eBt (nI (bB (dD S) (f (cn - 1)))) p q (nmb N l)))) I' A' → I' 42 = nI (N + l.length) → BT 2 I' A' (nmb N l) p q → Q (.inl (some (.int (nI N))), hS n u I' A' J B mk sn L xs X)) (kx : dO (wrs S (apW (f (cn - 1)) (mB (dD S) (f (cn - 1))) (eBt (nI (bB (dD S) (f (cn - 1)))) p q (nmb N l)))) = true → ∀ I' A', Up 60 I I' → Up 50 A A' → kD mk (wrs S (apW (f (cn - 1)) (mB (dD S) (f (cn - 1))) (eBt (nI (bB (dD S) (f (cn - 1)))) p q (nmb N l)))) I' A' → Q (.inr n, hS (n + 1) (u + 6) I' A' J B mk sn L xs (va_up X n (.inr (9, []))))) : mq 63 0 [some (.ref 1), some (.ref 13), some (.ref 53), none, none, none] [] (hS n u I A J B mk sn L xs X) Q := by
  obtain ⟨t, ht⟩ : ∃ x, x = eBt (nI (bB (dD S) (f (cn - 1)))) p q (nmb N l) := ⟨_, rfl⟩
  rw [← ht] at hfit kk kx
  have htb : ∀ i, gB0 t i < 256 := by
    rw [ht]
    exact gB0_by (eBt_by _ _ _ _)
  refine x_al1 (pc := 0) rfl rfl ?_
  refine g_13_7 (pc := 1) (v := nI N) rfl rfl hN ?_
  refine x_is1 (pc := 4) (ml' := [some (.ref 1), some (.ref 13), some (.ref 53), some (.int (nI N)), none, none]) rfl rfl ?_
  refine x_al1 (pc := 5) rfl rfl ?_
  refine g_53_0 (pc := 6) rfl rfl ?_
  refine x_il1 (pc := 9) rfl rfl ?_
  refine x_k (pc := 10) rfl rfl rfl ⟨Nat.le_of_ble_eq_true rfl, Nat.le_of_ble_eq_true rfl, Nat.le_of_ble_eq_true rfl⟩ rfl (k_64_2 (I := I) (A := A) (N := N) (l := l) hB hl4 (fun A1 g1 hB1 => ?_))
  show mq 63 13 [some (.ref 1), some (.ref 13), some (.ref 53), some (.int (nI N)), none, none] [] (hS n u I A1 J B mk sn L xs X) _
  refine x_al1 (pc := 13) rfl rfl ?_
  refine x_al1 (pc := 14) rfl rfl ?_
  refine x_al1 (pc := 15) rfl rfl ?_
  refine x_k (pc := 16) rfl rfl rfl ⟨Nat.le_of_ble_eq_true rfl, Nat.le_of_ble_eq_true rfl, Nat.le_of_ble_eq_true rfl⟩ rfl (k_65a_0_2 (I := I) (A := A1) (l := nmb N l) (kD_on hD ho (Fr_refl [] I) g1 (by decide) (by decide)) ho hcn hc hf (fun j hj => by rw [g1 30 (by decide)]; exact hsl j hj) hN hNb hB1 (by rw [nmb_len]; exact hl1) (by rw [nmb_len]; exact hl4) hp (by rw [← ht]; exact hfit) (fun I2 A2 f2 g2 => ?_))
  show mq 63 19 [some (.ref 1), some (.ref 13), some (.ref 53), some (.int (nI N)), none, none] [.int (nI (f (cn - 1)))] (hS n u I2 A2 J B mk sn L xs X) _
  refine x_is2 (pc := 19) (ml' := [some (.ref 1), some (.ref 13), some (.ref 53), some (.int (nI N)), some (.int (nI (f (cn - 1)))), none]) rfl rfl ?_
  refine x_il2 (pc := 21) rfl rfl ?_
  refine x_ifN_ge (pc := 23) (t := 37) rfl rfl (by have := hf (cn - 1) (by omega); omega) ?_
  have kq := kD_on (kD_on hD ho (Fr_refl [] I) g1 (by decide) (by decide)) ho f2 g2 (by decide) (by decide)
  have oq := ho
  have bq := BT_fr2 hB1 f2 g2 (by decide) (by decide)
  have hmb := mB_lt hD.2.1.2.1 (f (cn - 1))
  have hfit8 : mB (dD S) (f (cn - 1)) + t.length ≤ 128 := hfit
  have ev : wrs S (apW (f (cn - 1)) (mB (dD S) (f (cn - 1))) (t)) = wr1 (wrs S (spW (f (cn - 1)) (mB (dD S) (f (cn - 1))) (mB (dD S) (f (cn - 1)) + (t).length) (t) 4 (mB (dD S) (f (cn - 1))))) (mkW (f (cn - 1)) (mB (dD S) (f (cn - 1)) + (t).length)) := by
    unfold apW
    rw [wrs_app]
    rfl
  refine x_al1 (pc := 37) rfl rfl ?_
  refine g_1_0 (pc := 38) rfl rfl ?_
  refine x_il2 (pc := 41) rfl rfl ?_
  refine x_k (pc := 43) rfl rfl rfl ⟨Nat.le_of_ble_eq_true rfl, Nat.le_of_ble_eq_true rfl, Nat.le_of_ble_eq_true rfl⟩ rfl (mq_k (c_37 (I := I2) (A := A2) (D := dD (S)) (kq).2.1 (hf _ (by omega))) ?_)
  show mq 63 46 [some (.ref 1), some (.ref 13), some (.ref 53), some (.int (nI N)), some (.int (nI (f (cn - 1)))), none] [.int (nI (mB (dD (S)) (f (cn - 1))))] (hS n u I2 A2 J B mk sn L xs X) _
  refine x_is2 (pc := 46) (ml' := [some (.ref 1), some (.ref 13), some (.ref 53), some (.int (nI N)), some (.int (nI (f (cn - 1)))), some (.int (nI (mB (dD (S)) (f (cn - 1)))))]) rfl rfl ?_
  refine x_al1 (pc := 48) rfl rfl ?_
  refine x_il2 (pc := 49) rfl rfl ?_
  refine x_al1 (pc := 51) rfl rfl ?_
  refine x_k (pc := 52) rfl rfl rfl ⟨Nat.le_of_ble_eq_true rfl, Nat.le_of_ble_eq_true rfl, Nat.le_of_ble_eq_true rfl⟩ rfl (k_66_2 (I := I2) (A := A2) (D := dD (S)) (l := nmb N l) (p := p) (q := q) (kq).2.1 (hf _ (by omega)) (by rw [nmb_len]; exact hl1) (by rw [nmb_len]; exact hl4) bq (fun I6 A6 f6 g6 h6 => ?_))
  show mq 63 55 [some (.ref 1), some (.ref 13), some (.ref 53), some (.int (nI N)), some (.int (nI (f (cn - 1)))), some (.int (nI (mB (dD (S)) (f (cn - 1)))))] [] (hS n u I6 A6 J B mk sn L xs X) _
  rw [← ht] at h6
  have F6 : Fr [2, 3, 14, 15, 42] I I6 := (Fr_cons (Fr_cons (Fr_refl _ _) f2 (by decide)) f6 (by decide))
  have G6 : Fr [0, 3, 4, 20] A A6 := (Fr_cons (Fr_cons (Fr_cons (Fr_refl _ _) g1 (by decide)) g2 (by decide)) g6 (by decide))
  refine x_al1 (pc := 55) rfl rfl ?_
  refine x_il2 (pc := 56) rfl rfl ?_
  refine x_il2 (pc := 58) rfl rfl ?_
  refine x_k (pc := 60) rfl rfl rfl ⟨Nat.le_of_ble_eq_true rfl, Nat.le_of_ble_eq_true rfl, Nat.le_of_ble_eq_true rfl⟩ rfl (k_73 (I := I6) (A := A6) (S := S) (s := f (cn - 1)) (m := mB (dD S) (f (cn - 1))) (t := t) (hf _ (by omega)) htb hfit8 h6 (kD_on kq oq f6 g6 (by decide) (by decide)) oq hmk hn hu (fun o7 I7 A7 f7 g7 h7 => ?_) (fun o7 I7 A7 f7 g7 h7 => mK_x rfl (kx (by rw [ev, wr1_off _ o7]; exact o7) I7 A7 (Up_tr (Up_fr F6 (by decide)) f7) (Up_tr (Up_fr G6 (by decide)) g7) (by rw [ev, wr1_off _ o7]; exact h7))))
  show mq 63 63 [some (.ref 1), some (.ref 13), some (.ref 53), some (.int (nI N)), some (.int (nI (f (cn - 1)))), some (.int (nI (mB (dD (S)) (f (cn - 1)))))] [] (hS n u I7 A7 J B mk sn L xs X) _
  refine x_al1 (pc := 63) rfl rfl ?_
  refine x_il2 (pc := 64) rfl rfl ?_
  refine x_il2 (pc := 66) rfl rfl ?_
  refine x_al1 (pc := 68) rfl rfl ?_
  refine g_1_7 (pc := 69) rfl rfl ?_
  refine g_49_1 (pc := 72) (v := nI ((t).length)) rfl rfl ((f7 14 (by decide)).trans h6.1) ?_
  refine x_iaddN (pc := 75) (c := (mB (dD (S)) (f (cn - 1))) + ((t).length)) rfl rfl ?_
  refine x_k (pc := 76) rfl rfl rfl ⟨Nat.le_of_ble_eq_true rfl, Nat.le_of_ble_eq_true rfl, Nat.le_of_ble_eq_true rfl⟩ rfl (k_74 (I := I7) (A := A7) (s := f (cn - 1)) (v := (mB (dD S) (f (cn - 1))) + (t).length) (S := wrs (S) (spW (f (cn - 1)) (mB (dD S) (f (cn - 1))) ((mB (dD S) (f (cn - 1))) + (t).length) (t) 4 (mB (dD S) (f (cn - 1))))) (hf _ (by omega)) (by omega) h7 o7 hmk hn hu (fun o8 I8 A8 f8 g8 h8 => ?_) (fun o8 I8 A8 f8 g8 h8 => mK_x rfl (kx (by rw [ev]; exact o8) I8 A8 (Up_tr (Up_fr F6 (by decide)) (Up_tr (Up_fr f7 (by decide)) f8)) (Up_tr (Up_fr G6 (by decide)) (Up_tr (Up_fr g7 (by decide)) g8)) (by rw [ev]; exact h8))))
  show mq 63 79 [some (.ref 1), some (.ref 13), some (.ref 53), some (.int (nI N)), some (.int (nI (f (cn - 1)))), some (.int (nI (mB (dD (S)) (f (cn - 1)))))] [] (hS n u I8 A8 J B mk sn L xs X) _
  refine x_al1 (pc := 79) rfl rfl ?_
  refine x_il1 (pc := 80) rfl rfl ?_
  refine x_al1 (pc := 81) rfl rfl ?_
  refine g_53_0 (pc := 82) rfl rfl ?_
  refine g_54_5 (pc := 85) (v := nI l.length) rfl rfl ((f8 28 (by decide)).trans ((f7 28 (by decide)).trans ((f6 28 (by decide)).trans ((f2 28 (by decide)).trans hB.2.2.1)))) ?_
  refine x_iaddN (pc := 88) (c := N + l.length) rfl rfl ?_
  refine p_13_7 (pc := 89) rfl rfl ?_
  refine x_il1 (pc := 92) rfl rfl ?_
  refine x_ret (pc := 93) rfl rfl ?_
  exact kk (by rw [ev]; exact o8) _ _ (Fr_u (Fr_cons (Fr_cons (Fr_cons (Fr_cons (Fr_refl _ _) f2 (by decide)) f6 (by decide)) f7 (by decide)) f8 (by decide)) (by decide)) (Fr_cons (Fr_cons (Fr_cons (Fr_cons (Fr_cons (Fr_refl _ _) g1 (by decide)) g2 (by decide)) g6 (by decide)) g7 (by decide)) g8 (by decide)) (kD_on (by rw [ev]; exact h8) (by rw [ev]; exact o8) (Fr_up I8 42 _) (Fr_refl [] A8) (by decide) (by decide)) rfl (BT_fr2 (BT_fr2 (BT_fr2 (BT_fr2 bq f6 g6 (by decide) (by decide)) f7 g7 (by decide) (by decide)) f8 g8 (by decide) (by decide)) (Fr_up I8 42 _) (Fr_refl [] A8) (by decide) (by decide))
set_option maxRecDepth 100000 in
set_option maxHeartbeats 4000000 in
theorem k_63b_0_2 {cn N : Nat} {f : Nat → Nat} {l : List R5} {p q : Int32} {S : DS} (hD : kD mk S I A) (ho : dO S = false) (hmk : mks mk sn) (hn : 77 ≤ n ∧ n < 10000) (hu : u + 6 < 1000000) (hcn : cn ≤ 16) (hc : I 40 = nI cn) (hf : ∀ k, k < cn → f k < 16) (hsl : ∀ j, j < cn → A 30 j = nI (f j)) (hN : I 42 = nI N) (hNb : N + 4 < 2 ^ 31) (hB : BT 2 I A l p q) (hl1 : 1 ≤ l.length) (hl4 : l.length ≤ 4) (hnf : cn = 0 ∨ 128 < mB (dD S) (f (cn - 1)) + (eBt (nI (bB (dD S) (f (cn - 1)))) p q (nmb N l)).length) {s : Nat} (hs : s < 16) (hfr : frS (dD S) 16 0 = nI s) (hc16 : cn < 16) {Q : mO × mHp → Prop} (kk : dO (wrs S (hdW s 0 N :: apW s 8 (eBt (nI N) p q (nmb N l)))) = false → ∀ I' A', Fr [2, 3, 14, 15, 40, 42] I I' → Fr [0, 3, 4, 30, 20] A A' → kD mk (wrs S (hdW s 0 N :: apW s 8 (eBt (nI N) p q (nmb N l)))) I' A' → I' 42 = nI (N + l.length) → BT 2 I' A' (nmb N l) p q → I' 40 = nI (cn + 1) → A' 30 = upd (A 30) cn (nI s) → Q (.inl (some (.int (nI N))), hS n u I' A' J B mk sn L xs X)) (kx : dO (wrs S (hdW s 0 N :: apW s 8 (eBt (nI N) p q (nmb N l)))) = true → ∀ I' A', Up 60 I I' → Up 50 A A' → kD mk (wrs S (hdW s 0 N :: apW s 8 (eBt (nI N) p q (nmb N l)))) I' A' → Q (.inr n, hS (n + 1) (u + 6) I' A' J B mk sn L xs (va_up X n (.inr (9, []))))) : mq 63 0 [some (.ref 1), some (.ref 13), some (.ref 53), none, none, none] [] (hS n u I A J B mk sn L xs X) Q := by
  have hel := eBt_len (nI N) p q (nmb N l)
  rw [nmb_len] at hel
  obtain ⟨t, ht⟩ : ∃ x, x = eBt (nI N) p q (nmb N l) := ⟨_, rfl⟩
  rw [← ht] at kk kx hel
  have htb : ∀ i, gB0 t i < 256 := by
    rw [ht]
    exact gB0_by (eBt_by _ _ _ _)
  have ev : wrs S (hdW s 0 N :: apW s 8 (t)) = wr1 (wrs (wr1 S (hdW s 0 N)) (spW s 8 (8 + (t).length) (t) 4 8)) (mkW s (8 + (t).length)) := by
    show wrs (wr1 S (hdW s 0 N)) (apW s 8 t) = _
    unfold apW
    rw [wrs_app]
    rfl
  refine x_al1 (pc := 0) rfl rfl ?_
  refine g_13_7 (pc := 1) (v := nI N) rfl rfl hN ?_
  refine x_is1 (pc := 4) (ml' := [some (.ref 1), some (.ref 13), some (.ref 53), some (.int (nI N)), none, none]) rfl rfl ?_
  refine x_al1 (pc := 5) rfl rfl ?_
  refine g_53_0 (pc := 6) rfl rfl ?_
  refine x_il1 (pc := 9) rfl rfl ?_
  refine x_k (pc := 10) rfl rfl rfl ⟨Nat.le_of_ble_eq_true rfl, Nat.le_of_ble_eq_true rfl, Nat.le_of_ble_eq_true rfl⟩ rfl (k_64_2 (I := I) (A := A) (N := N) (l := l) hB hl4 (fun A1 g1 hB1 => ?_))
  show mq 63 13 [some (.ref 1), some (.ref 13), some (.ref 53), some (.int (nI N)), none, none] [] (hS n u I A1 J B mk sn L xs X) _
  refine x_al1 (pc := 13) rfl rfl ?_
  refine x_al1 (pc := 14) rfl rfl ?_
  refine x_al1 (pc := 15) rfl rfl ?_
  refine x_k (pc := 16) rfl rfl rfl ⟨Nat.le_of_ble_eq_true rfl, Nat.le_of_ble_eq_true rfl, Nat.le_of_ble_eq_true rfl⟩ rfl (k_65b_0_2 (I := I) (A := A1) (l := nmb N l) (kD_on hD ho (Fr_refl [] I) g1 (by decide) (by decide)) ho hcn hc hf (fun j hj => by rw [g1 30 (by decide)]; exact hsl j hj) hN hNb hB1 (by rw [nmb_len]; exact hl1) (by rw [nmb_len]; exact hl4) hnf hs hfr hc16 hmk hn hu (fun o2 I2 A2 f2 g2 h2 c2 d2 => ?_) (fun o2 I2 A2 f2 g2 h2 => mK_x rfl (kx (by rw [ev, wr1_off _ (by rw [wrs_off _ o2]; exact o2), wrs_off _ o2]; exact o2) I2 A2 f2 (Up_tr (Up_fr g1 (by decide)) g2) (by rw [ev, wr1_off _ (by rw [wrs_off _ o2]; exact o2), wrs_off _ o2]; exact h2))))
  show mq 63 19 [some (.ref 1), some (.ref 13), some (.ref 53), some (.int (nI N)), none, none] [.int (nI s)] (hS n u I2 A2 J B mk sn L xs X) _
  refine x_is2 (pc := 19) (ml' := [some (.ref 1), some (.ref 13), some (.ref 53), some (.int (nI N)), some (.int (nI s)), none]) rfl rfl ?_
  refine x_il2 (pc := 21) rfl rfl ?_
  refine x_ifN_ge (pc := 23) (t := 37) rfl rfl (by omega) ?_
  have kq := h2
  have oq := o2
  have bq := BT_fr2 hB1 f2 g2 (by decide) (by decide)
  have hb8 := hd_D o2 (by omega)
  have hfit8 : 8 + t.length ≤ 128 := by omega
  refine x_al1 (pc := 37) rfl rfl ?_
  refine g_1_0 (pc := 38) rfl rfl ?_
  refine x_il2 (pc := 41) rfl rfl ?_
  refine x_k (pc := 43) rfl rfl rfl ⟨Nat.le_of_ble_eq_true rfl, Nat.le_of_ble_eq_true rfl, Nat.le_of_ble_eq_true rfl⟩ rfl (mq_k (c_37 (I := I2) (A := A2) (D := dD (wr1 S (hdW s 0 N))) (kq).2.1 hs) ?_)
  show mq 63 46 [some (.ref 1), some (.ref 13), some (.ref 53), some (.int (nI N)), some (.int (nI s)), none] [.int (nI (mB (dD (wr1 S (hdW s 0 N))) s))] (hS n u I2 A2 J B mk sn L xs X) _
  refine x_top (y := nI 8) (congrArg nI hb8.1) ?_
  refine x_is2 (pc := 46) (ml' := [some (.ref 1), some (.ref 13), some (.ref 53), some (.int (nI N)), some (.int (nI s)), some (.int (nI 8))]) rfl rfl ?_
  refine x_al1 (pc := 48) rfl rfl ?_
  refine x_il2 (pc := 49) rfl rfl ?_
  refine x_al1 (pc := 51) rfl rfl ?_
  refine x_k (pc := 52) rfl rfl rfl ⟨Nat.le_of_ble_eq_true rfl, Nat.le_of_ble_eq_true rfl, Nat.le_of_ble_eq_true rfl⟩ rfl (k_66_2 (I := I2) (A := A2) (D := dD (wr1 S (hdW s 0 N))) (l := nmb N l) (p := p) (q := q) (kq).2.1 hs (by rw [nmb_len]; exact hl1) (by rw [nmb_len]; exact hl4) bq (fun I6 A6 f6 g6 h6 => ?_))
  show mq 63 55 [some (.ref 1), some (.ref 13), some (.ref 53), some (.int (nI N)), some (.int (nI s)), some (.int (nI 8))] [] (hS n u I6 A6 J B mk sn L xs X) _
  rw [hb8.2, ← ht] at h6
  have F6 : Fr [2, 3, 14, 15, 40, 42] I I6 := (Fr_cons (Fr_cons (Fr_refl _ _) f2 (by decide)) f6 (by decide))
  have G6 : Fr [0, 3, 4, 30, 20] A A6 := (Fr_cons (Fr_cons (Fr_cons (Fr_refl _ _) g1 (by decide)) g2 (by decide)) g6 (by decide))
  refine x_al1 (pc := 55) rfl rfl ?_
  refine x_il2 (pc := 56) rfl rfl ?_
  refine x_il2 (pc := 58) rfl rfl ?_
  refine x_k (pc := 60) rfl rfl rfl ⟨Nat.le_of_ble_eq_true rfl, Nat.le_of_ble_eq_true rfl, Nat.le_of_ble_eq_true rfl⟩ rfl (k_73 (I := I6) (A := A6) (S := wr1 S (hdW s 0 N)) (s := s) (m := 8) (t := t) hs htb hfit8 h6 (kD_on kq oq f6 g6 (by decide) (by decide)) oq hmk hn hu (fun o7 I7 A7 f7 g7 h7 => ?_) (fun o7 I7 A7 f7 g7 h7 => mK_x rfl (kx (by rw [ev, wr1_off _ o7]; exact o7) I7 A7 (Up_tr (Up_fr F6 (by decide)) f7) (Up_tr (Up_fr G6 (by decide)) g7) (by rw [ev, wr1_off _ o7]; exact h7))))
  show mq 63 63 [some (.ref 1), some (.ref 13), some (.ref 53), some (.int (nI N)), some (.int (nI s)), some (.int (nI 8))] [] (hS n u I7 A7 J B mk sn L xs X) _
  refine x_al1 (pc := 63) rfl rfl ?_
  refine x_il2 (pc := 64) rfl rfl ?_
  refine x_il2 (pc := 66) rfl rfl ?_
  refine x_al1 (pc := 68) rfl rfl ?_
  refine g_1_7 (pc := 69) rfl rfl ?_
  refine g_49_1 (pc := 72) (v := nI ((t).length)) rfl rfl ((f7 14 (by decide)).trans h6.1) ?_
  refine x_iaddN (pc := 75) (c := 8 + ((t).length)) rfl rfl ?_
  refine x_k (pc := 76) rfl rfl rfl ⟨Nat.le_of_ble_eq_true rfl, Nat.le_of_ble_eq_true rfl, Nat.le_of_ble_eq_true rfl⟩ rfl (k_74 (I := I7) (A := A7) (s := s) (v := 8 + (t).length) (S := wrs (wr1 S (hdW s 0 N)) (spW s 8 (8 + (t).length) (t) 4 8)) hs (by omega) h7 o7 hmk hn hu (fun o8 I8 A8 f8 g8 h8 => ?_) (fun o8 I8 A8 f8 g8 h8 => mK_x rfl (kx (by rw [ev]; exact o8) I8 A8 (Up_tr (Up_fr F6 (by decide)) (Up_tr (Up_fr f7 (by decide)) f8)) (Up_tr (Up_fr G6 (by decide)) (Up_tr (Up_fr g7 (by decide)) g8)) (by rw [ev]; exact h8))))
  show mq 63 79 [some (.ref 1), some (.ref 13), some (.ref 53), some (.int (nI N)), some (.int (nI s)), some (.int (nI 8))] [] (hS n u I8 A8 J B mk sn L xs X) _
  refine x_al1 (pc := 79) rfl rfl ?_
  refine x_il1 (pc := 80) rfl rfl ?_
  refine x_al1 (pc := 81) rfl rfl ?_
  refine g_53_0 (pc := 82) rfl rfl ?_
  refine g_54_5 (pc := 85) (v := nI l.length) rfl rfl ((f8 28 (by decide)).trans ((f7 28 (by decide)).trans ((f6 28 (by decide)).trans ((f2 28 (by decide)).trans hB.2.2.1)))) ?_
  refine x_iaddN (pc := 88) (c := N + l.length) rfl rfl ?_
  refine p_13_7 (pc := 89) rfl rfl ?_
  refine x_il1 (pc := 92) rfl rfl ?_
  refine x_ret (pc := 93) rfl rfl ?_
  exact kk (by rw [ev]; exact o8) _ _ (Fr_u (Fr_cons (Fr_cons (Fr_cons (Fr_cons (Fr_refl _ _) f2 (by decide)) f6 (by decide)) f7 (by decide)) f8 (by decide)) (by decide)) (Fr_cons (Fr_cons (Fr_cons (Fr_cons (Fr_cons (Fr_refl _ _) g1 (by decide)) g2 (by decide)) g6 (by decide)) g7 (by decide)) g8 (by decide)) (kD_on (by rw [ev]; exact h8) (by rw [ev]; exact o8) (Fr_up I8 42 _) (Fr_refl [] A8) (by decide) (by decide)) rfl (BT_fr2 (BT_fr2 (BT_fr2 (BT_fr2 bq f6 g6 (by decide) (by decide)) f7 g7 (by decide) (by decide)) f8 g8 (by decide) (by decide)) (Fr_up I8 42 _) (Fr_refl [] A8) (by decide) (by decide)) ((f8 40 (by decide)).trans ((f7 40 (by decide)).trans ((f6 40 (by decide)).trans c2))) (by rw [g8 30 (by decide), g7 30 (by decide), g6 30 (by decide), d2, g1 30 (by decide)])
set_option maxRecDepth 100000 in
set_option maxHeartbeats 4000000 in
theorem k_63c_0_2 {cn N : Nat} {f : Nat → Nat} {l : List R5} {p q : Int32} {S : DS} (hD : kD mk S I A) (ho : dO S = false) (hmk : mks mk sn) (hn : 77 ≤ n ∧ n < 10000) (hu : u + 6 < 1000000) (hcn : cn ≤ 16) (hc : I 40 = nI cn) (hf : ∀ k, k < cn → f k < 16) (hsl : ∀ j, j < cn → A 30 j = nI (f j)) (hN : I 42 = nI N) (hNb : N + 4 < 2 ^ 31) (hB : BT 2 I A l p q) (hl1 : 1 ≤ l.length) (hl4 : l.length ≤ 4) (hnf : cn = 0 ∨ 128 < mB (dD S) (f (cn - 1)) + (eBt (nI (bB (dD S) (f (cn - 1)))) p q (nmb N l)).length) (hfr : frS (dD S) 16 0 = -1) {Q : mO × mHp → Prop} (kr : ∀ I' A', Fr [14] I I' → Fr [3, 20] A A' → Q (.inr n, hS (n + 1) (u + 6) I' A' J B mk sn L xs (va_up X n (.inr (11, []))))) : mq 63 0 [some (.ref 1), some (.ref 13), some (.ref 53), none, none, none] [] (hS n u I A J B mk sn L xs X) Q := by
  refine x_al1 (pc := 0) rfl rfl ?_
  refine g_13_7 (pc := 1) (v := nI N) rfl rfl hN ?_
  refine x_is1 (pc := 4) (ml' := [some (.ref 1), some (.ref 13), some (.ref 53), some (.int (nI N)), none, none]) rfl rfl ?_
  refine x_al1 (pc := 5) rfl rfl ?_
  refine g_53_0 (pc := 6) rfl rfl ?_
  refine x_il1 (pc := 9) rfl rfl ?_
  refine x_k (pc := 10) rfl rfl rfl ⟨Nat.le_of_ble_eq_true rfl, Nat.le_of_ble_eq_true rfl, Nat.le_of_ble_eq_true rfl⟩ rfl (k_64_2 (I := I) (A := A) (N := N) (l := l) hB hl4 (fun A1 g1 hB1 => ?_))
  show mq 63 13 [some (.ref 1), some (.ref 13), some (.ref 53), some (.int (nI N)), none, none] [] (hS n u I A1 J B mk sn L xs X) _
  refine x_al1 (pc := 13) rfl rfl ?_
  refine x_al1 (pc := 14) rfl rfl ?_
  refine x_al1 (pc := 15) rfl rfl ?_
  refine x_k (pc := 16) rfl rfl rfl ⟨Nat.le_of_ble_eq_true rfl, Nat.le_of_ble_eq_true rfl, Nat.le_of_ble_eq_true rfl⟩ rfl (k_65c_0_2 (I := I) (A := A1) (l := nmb N l) (kD_on hD ho (Fr_refl [] I) g1 (by decide) (by decide)) ho hcn hc hf (fun j hj => by rw [g1 30 (by decide)]; exact hsl j hj) hN hNb hB1 (by rw [nmb_len]; exact hl1) (by rw [nmb_len]; exact hl4) hnf hfr (fun I2 A2 f2 g2 => ?_))
  show mq 63 19 [some (.ref 1), some (.ref 13), some (.ref 53), some (.int (nI N)), none, none] [.int (-1)] (hS n u I2 A2 J B mk sn L xs X) _
  refine x_is2 (pc := 19) (ml' := [some (.ref 1), some (.ref 13), some (.ref 53), some (.int (nI N)), some (.int (-1)), none]) rfl rfl ?_
  refine x_il2 (pc := 21) rfl rfl ?_
  refine x_if_ge (pc := 23) (t := 37) rfl rfl rfl (fun c => absurd c (by decide)) (fun _ => ?_)
  refine x_thr (pc := 26) rfl rfl hn hu rfl ⟨Nat.le_of_ble_eq_true rfl, Nat.le_of_ble_eq_true rfl⟩ ?_
  exact kr _ _ (Fr_cons (Fr_refl _ _) f2 (by decide)) (Fr_cons (Fr_cons (Fr_refl _ _) g1 (by decide)) g2 (by decide))
set_option maxRecDepth 100000 in
set_option maxHeartbeats 4000000 in
theorem k_63_0_2 {cn N : Nat} {f : Nat → Nat} {l : List R5} {p q : Int32} {S : DS} (hD : kD mk S I A) (ho : dO S = false) (hmk : mks mk sn) (hn : 77 ≤ n ∧ n < 10000) (hu : u + 6 < 1000000) (hcn : cn ≤ 16) (hc : I 40 = nI cn) (hf : ∀ k, k < cn → f k < 16) (hsl : ∀ j, j < cn → A 30 j = nI (f j)) (hN : I 42 = nI N) (hNb : N + 4 < 2 ^ 31) (hB : BT 2 I A l p q) (hl1 : 1 ≤ l.length) (hl4 : l.length ≤ 4) (hroom : frS (dD S) 16 0 = -1 ∨ cn < 16) {Q : mO × mHp → Prop} (kk : ∀ S' f' cn', apS S 0 f cn N p q (nmb N l) = some (S', f', cn') → dO S' = false → ∀ I' A', Fr [2, 3, 14, 15, 40, 42] I I' → Fr [0, 3, 4, 30, 20] A A' → kD mk S' I' A' → I' 42 = nI (N + l.length) → BT 2 I' A' (nmb N l) p q → I' 40 = nI cn' → (∀ j, j < cn' → A' 30 j = nI (f' j)) → Q (.inl (some (.int (nI N))), hS n u I' A' J B mk sn L xs X)) (kx : ∀ S' f' cn', apS S 0 f cn N p q (nmb N l) = some (S', f', cn') → dO S' = true → ∀ I' A', Up 60 I I' → Up 50 A A' → kD mk S' I' A' → Q (.inr n, hS (n + 1) (u + 6) I' A' J B mk sn L xs (va_up X n (.inr (9, []))))) (kr : apS S 0 f cn N p q (nmb N l) = none → ∀ I' A', Fr [14] I I' → Fr [3, 20] A A' → Q (.inr n, hS (n + 1) (u + 6) I' A' J B mk sn L xs (va_up X n (.inr (11, []))))) : mq 63 0 [some (.ref 1), some (.ref 13), some (.ref 53), none, none, none] [] (hS n u I A J B mk sn L xs X) Q := by
  by_cases hfit : 0 < cn ∧ mB (dD S) (f (cn - 1)) + (eBt (nI (bB (dD S) (f (cn - 1)))) p q (nmb N l)).length ≤ 128
  · have e : apS S 0 f cn N p q (nmb N l) = some (_, f, cn) := if_pos hfit
    refine k_63a_0_2 hD ho hmk hn hu hcn hc hf hsl hN hNb hB hl1 hl4 hfit.1 hfit.2 (fun o1 I1 A1 f1 g1 h1 n1 b1 => ?_) (fun o1 I1 A1 f1 g1 h1 => kx _ _ _ e o1 I1 A1 f1 g1 h1)
    exact kk _ _ _ e o1 I1 A1 (Fr_cons (Fr_refl _ I) f1 (by decide)) (Fr_cons (Fr_refl _ A) g1 (by decide)) h1 n1 b1 ((f1 40 (by decide)).trans hc) (fun j hj => by rw [g1 30 (by decide)]; exact hsl j hj)
  · have hnf : cn = 0 ∨ 128 < mB (dD S) (f (cn - 1)) + (eBt (nI (bB (dD S) (f (cn - 1)))) p q (nmb N l)).length := by
      by_cases h0 : cn = 0
      · exact Or.inl h0
      · exact Or.inr (Nat.lt_of_not_le (fun q => hfit ⟨Nat.pos_of_ne_zero h0, q⟩))
    by_cases hfr : frS (dD S) 16 0 = -1
    · have e : apS S 0 f cn N p q (nmb N l) = none := (if_neg hfit).trans (if_pos hfr)
      exact k_63c_0_2 hD ho hmk hn hu hcn hc hf hsl hN hNb hB hl1 hl4 hnf hfr (fun I1 A1 f1 g1 => kr e I1 A1 f1 g1)
    · have e : apS S 0 f cn N p q (nmb N l) = some (_, _, cn + 1) := (if_neg hfit).trans (if_neg hfr)
      rcases frN_spec (dD S) 16 0 with h5 | h5
      · exact absurd h5.1 hfr
      · have hc16 : cn < 16 := by
          rcases hroom with h6 | h6
          · exact absurd h6 hfr
          · exact h6
        refine k_63b_0_2 hD ho hmk hn hu hcn hc hf hsl hN hNb hB hl1 hl4 hnf (by omega) h5.1 hc16 (fun o1 I1 A1 f1 g1 h1 n1 b1 c1 d1 => ?_) (fun o1 I1 A1 f1 g1 h1 => kx _ _ _ e o1 I1 A1 f1 g1 h1)
        refine kk _ _ _ e o1 I1 A1 f1 g1 h1 n1 b1 c1 (fun j hj => ?_)
        rw [d1]
        by_cases h7 : j = cn
        · rw [h7, pk_us, if_pos rfl]
        · rw [pk_un h7, if_neg h7]
          exact hsl j (by omega)
set_option maxRecDepth 100000 in
set_option maxHeartbeats 4000000 in
theorem k_63a_0_3 {cn N : Nat} {f : Nat → Nat} {l : List R5} {p q : Int32} {S : DS} (hD : kD mk S I A) (ho : dO S = false) (hmk : mks mk sn) (hn : 77 ≤ n ∧ n < 10000) (hu : u + 6 < 1000000) (hcn : cn ≤ 16) (hc : I 40 = nI cn) (hf : ∀ k, k < cn → f k < 16) (hsl : ∀ j, j < cn → A 30 j = nI (f j)) (hN : I 42 = nI N) (hNb : N + 4 < 2 ^ 31) (hB : BT 3 I A l p q) (hl1 : 1 ≤ l.length) (hl4 : l.length ≤ 4) (hp : 0 < cn) (hfit : mB (dD S) (f (cn - 1)) + (eBt (nI (bB (dD S) (f (cn - 1)))) p q (nmb N l)).length ≤ 128) {Q : mO × mHp → Prop} (kk : dO (wrs S (apW (f (cn - 1)) (mB (dD S) (f (cn - 1))) (eBt (nI (bB (dD S) (f (cn - 1)))) p q (nmb N l)))) = false → ∀ I' A', Fr [2, 3, 14, 15, 42] I I' → Fr [0, 3, 4, 25] A A' → kD mk (wrs S (apW (f (cn - 1)) (mB (dD S) (f (cn - 1))) (eBt (nI (bB (dD S) (f (cn - 1)))) p q (nmb N l)))) I' A' → I' 42 = nI (N + l.length) → BT 3 I' A' (nmb N l) p q → Q (.inl (some (.int (nI N))), hS n u I' A' J B mk sn L xs X)) (kx : dO (wrs S (apW (f (cn - 1)) (mB (dD S) (f (cn - 1))) (eBt (nI (bB (dD S) (f (cn - 1)))) p q (nmb N l)))) = true → ∀ I' A', Up 60 I I' → Up 50 A A' → kD mk (wrs S (apW (f (cn - 1)) (mB (dD S) (f (cn - 1))) (eBt (nI (bB (dD S) (f (cn - 1)))) p q (nmb N l)))) I' A' → Q (.inr n, hS (n + 1) (u + 6) I' A' J B mk sn L xs (va_up X n (.inr (9, []))))) : mq 63 0 [some (.ref 1), some (.ref 13), some (.ref 60), none, none, none] [] (hS n u I A J B mk sn L xs X) Q := by
  obtain ⟨t, ht⟩ : ∃ x, x = eBt (nI (bB (dD S) (f (cn - 1)))) p q (nmb N l) := ⟨_, rfl⟩
  rw [← ht] at hfit kk kx
  have htb : ∀ i, gB0 t i < 256 := by
    rw [ht]
    exact gB0_by (eBt_by _ _ _ _)
  refine x_al1 (pc := 0) rfl rfl ?_
  refine g_13_7 (pc := 1) (v := nI N) rfl rfl hN ?_
  refine x_is1 (pc := 4) (ml' := [some (.ref 1), some (.ref 13), some (.ref 60), some (.int (nI N)), none, none]) rfl rfl ?_
  refine x_al1 (pc := 5) rfl rfl ?_
  refine g_60_0 (pc := 6) rfl rfl ?_
  refine x_il1 (pc := 9) rfl rfl ?_
  refine x_k (pc := 10) rfl rfl rfl ⟨Nat.le_of_ble_eq_true rfl, Nat.le_of_ble_eq_true rfl, Nat.le_of_ble_eq_true rfl⟩ rfl (k_64_3 (I := I) (A := A) (N := N) (l := l) hB hl4 (fun A1 g1 hB1 => ?_))
  show mq 63 13 [some (.ref 1), some (.ref 13), some (.ref 60), some (.int (nI N)), none, none] [] (hS n u I A1 J B mk sn L xs X) _
  refine x_al1 (pc := 13) rfl rfl ?_
  refine x_al1 (pc := 14) rfl rfl ?_
  refine x_al1 (pc := 15) rfl rfl ?_
  refine x_k (pc := 16) rfl rfl rfl ⟨Nat.le_of_ble_eq_true rfl, Nat.le_of_ble_eq_true rfl, Nat.le_of_ble_eq_true rfl⟩ rfl (k_65a_0_3 (I := I) (A := A1) (l := nmb N l) (kD_on hD ho (Fr_refl [] I) g1 (by decide) (by decide)) ho hcn hc hf (fun j hj => by rw [g1 30 (by decide)]; exact hsl j hj) hN hNb hB1 (by rw [nmb_len]; exact hl1) (by rw [nmb_len]; exact hl4) hp (by rw [← ht]; exact hfit) (fun I2 A2 f2 g2 => ?_))
  show mq 63 19 [some (.ref 1), some (.ref 13), some (.ref 60), some (.int (nI N)), none, none] [.int (nI (f (cn - 1)))] (hS n u I2 A2 J B mk sn L xs X) _
  refine x_is2 (pc := 19) (ml' := [some (.ref 1), some (.ref 13), some (.ref 60), some (.int (nI N)), some (.int (nI (f (cn - 1)))), none]) rfl rfl ?_
  refine x_il2 (pc := 21) rfl rfl ?_
  refine x_ifN_ge (pc := 23) (t := 37) rfl rfl (by have := hf (cn - 1) (by omega); omega) ?_
  have kq := kD_on (kD_on hD ho (Fr_refl [] I) g1 (by decide) (by decide)) ho f2 g2 (by decide) (by decide)
  have oq := ho
  have bq := BT_fr2 hB1 f2 g2 (by decide) (by decide)
  have hmb := mB_lt hD.2.1.2.1 (f (cn - 1))
  have hfit8 : mB (dD S) (f (cn - 1)) + t.length ≤ 128 := hfit
  have ev : wrs S (apW (f (cn - 1)) (mB (dD S) (f (cn - 1))) (t)) = wr1 (wrs S (spW (f (cn - 1)) (mB (dD S) (f (cn - 1))) (mB (dD S) (f (cn - 1)) + (t).length) (t) 4 (mB (dD S) (f (cn - 1))))) (mkW (f (cn - 1)) (mB (dD S) (f (cn - 1)) + (t).length)) := by
    unfold apW
    rw [wrs_app]
    rfl
  refine x_al1 (pc := 37) rfl rfl ?_
  refine g_1_0 (pc := 38) rfl rfl ?_
  refine x_il2 (pc := 41) rfl rfl ?_
  refine x_k (pc := 43) rfl rfl rfl ⟨Nat.le_of_ble_eq_true rfl, Nat.le_of_ble_eq_true rfl, Nat.le_of_ble_eq_true rfl⟩ rfl (mq_k (c_37 (I := I2) (A := A2) (D := dD (S)) (kq).2.1 (hf _ (by omega))) ?_)
  show mq 63 46 [some (.ref 1), some (.ref 13), some (.ref 60), some (.int (nI N)), some (.int (nI (f (cn - 1)))), none] [.int (nI (mB (dD (S)) (f (cn - 1))))] (hS n u I2 A2 J B mk sn L xs X) _
  refine x_is2 (pc := 46) (ml' := [some (.ref 1), some (.ref 13), some (.ref 60), some (.int (nI N)), some (.int (nI (f (cn - 1)))), some (.int (nI (mB (dD (S)) (f (cn - 1)))))]) rfl rfl ?_
  refine x_al1 (pc := 48) rfl rfl ?_
  refine x_il2 (pc := 49) rfl rfl ?_
  refine x_al1 (pc := 51) rfl rfl ?_
  refine x_k (pc := 52) rfl rfl rfl ⟨Nat.le_of_ble_eq_true rfl, Nat.le_of_ble_eq_true rfl, Nat.le_of_ble_eq_true rfl⟩ rfl (k_66_3 (I := I2) (A := A2) (D := dD (S)) (l := nmb N l) (p := p) (q := q) (kq).2.1 (hf _ (by omega)) (by rw [nmb_len]; exact hl1) (by rw [nmb_len]; exact hl4) bq (fun I6 A6 f6 g6 h6 => ?_))
  show mq 63 55 [some (.ref 1), some (.ref 13), some (.ref 60), some (.int (nI N)), some (.int (nI (f (cn - 1)))), some (.int (nI (mB (dD (S)) (f (cn - 1)))))] [] (hS n u I6 A6 J B mk sn L xs X) _
  rw [← ht] at h6
  have F6 : Fr [2, 3, 14, 15, 42] I I6 := (Fr_cons (Fr_cons (Fr_refl _ _) f2 (by decide)) f6 (by decide))
  have G6 : Fr [0, 3, 4, 25] A A6 := (Fr_cons (Fr_cons (Fr_cons (Fr_refl _ _) g1 (by decide)) g2 (by decide)) g6 (by decide))
  refine x_al1 (pc := 55) rfl rfl ?_
  refine x_il2 (pc := 56) rfl rfl ?_
  refine x_il2 (pc := 58) rfl rfl ?_
  refine x_k (pc := 60) rfl rfl rfl ⟨Nat.le_of_ble_eq_true rfl, Nat.le_of_ble_eq_true rfl, Nat.le_of_ble_eq_true rfl⟩ rfl (k_73 (I := I6) (A := A6) (S := S) (s := f (cn - 1)) (m := mB (dD S) (f (cn - 1))) (t := t) (hf _ (by omega)) htb hfit8 h6 (kD_on kq oq f6 g6 (by decide) (by decide)) oq hmk hn hu (fun o7 I7 A7 f7 g7 h7 => ?_) (fun o7 I7 A7 f7 g7 h7 => mK_x rfl (kx (by rw [ev, wr1_off _ o7]; exact o7) I7 A7 (Up_tr (Up_fr F6 (by decide)) f7) (Up_tr (Up_fr G6 (by decide)) g7) (by rw [ev, wr1_off _ o7]; exact h7))))
  show mq 63 63 [some (.ref 1), some (.ref 13), some (.ref 60), some (.int (nI N)), some (.int (nI (f (cn - 1)))), some (.int (nI (mB (dD (S)) (f (cn - 1)))))] [] (hS n u I7 A7 J B mk sn L xs X) _
  refine x_al1 (pc := 63) rfl rfl ?_
  refine x_il2 (pc := 64) rfl rfl ?_
  refine x_il2 (pc := 66) rfl rfl ?_
  refine x_al1 (pc := 68) rfl rfl ?_
  refine g_1_7 (pc := 69) rfl rfl ?_
  refine g_49_1 (pc := 72) (v := nI ((t).length)) rfl rfl ((f7 14 (by decide)).trans h6.1) ?_
  refine x_iaddN (pc := 75) (c := (mB (dD (S)) (f (cn - 1))) + ((t).length)) rfl rfl ?_
  refine x_k (pc := 76) rfl rfl rfl ⟨Nat.le_of_ble_eq_true rfl, Nat.le_of_ble_eq_true rfl, Nat.le_of_ble_eq_true rfl⟩ rfl (k_74 (I := I7) (A := A7) (s := f (cn - 1)) (v := (mB (dD S) (f (cn - 1))) + (t).length) (S := wrs (S) (spW (f (cn - 1)) (mB (dD S) (f (cn - 1))) ((mB (dD S) (f (cn - 1))) + (t).length) (t) 4 (mB (dD S) (f (cn - 1))))) (hf _ (by omega)) (by omega) h7 o7 hmk hn hu (fun o8 I8 A8 f8 g8 h8 => ?_) (fun o8 I8 A8 f8 g8 h8 => mK_x rfl (kx (by rw [ev]; exact o8) I8 A8 (Up_tr (Up_fr F6 (by decide)) (Up_tr (Up_fr f7 (by decide)) f8)) (Up_tr (Up_fr G6 (by decide)) (Up_tr (Up_fr g7 (by decide)) g8)) (by rw [ev]; exact h8))))
  show mq 63 79 [some (.ref 1), some (.ref 13), some (.ref 60), some (.int (nI N)), some (.int (nI (f (cn - 1)))), some (.int (nI (mB (dD (S)) (f (cn - 1)))))] [] (hS n u I8 A8 J B mk sn L xs X) _
  refine x_al1 (pc := 79) rfl rfl ?_
  refine x_il1 (pc := 80) rfl rfl ?_
  refine x_al1 (pc := 81) rfl rfl ?_
  refine g_60_0 (pc := 82) rfl rfl ?_
  refine g_61_5 (pc := 85) (v := nI l.length) rfl rfl ((f8 31 (by decide)).trans ((f7 31 (by decide)).trans ((f6 31 (by decide)).trans ((f2 31 (by decide)).trans hB.2.2.1)))) ?_
  refine x_iaddN (pc := 88) (c := N + l.length) rfl rfl ?_
  refine p_13_7 (pc := 89) rfl rfl ?_
  refine x_il1 (pc := 92) rfl rfl ?_
  refine x_ret (pc := 93) rfl rfl ?_
  exact kk (by rw [ev]; exact o8) _ _ (Fr_u (Fr_cons (Fr_cons (Fr_cons (Fr_cons (Fr_refl _ _) f2 (by decide)) f6 (by decide)) f7 (by decide)) f8 (by decide)) (by decide)) (Fr_cons (Fr_cons (Fr_cons (Fr_cons (Fr_cons (Fr_refl _ _) g1 (by decide)) g2 (by decide)) g6 (by decide)) g7 (by decide)) g8 (by decide)) (kD_on (by rw [ev]; exact h8) (by rw [ev]; exact o8) (Fr_up I8 42 _) (Fr_refl [] A8) (by decide) (by decide)) rfl (BT_fr2 (BT_fr2 (BT_fr2 (BT_fr2 bq f6 g6 (by decide) (by decide)) f7 g7 (by decide) (by decide)) f8 g8 (by decide) (by decide)) (Fr_up I8 42 _) (Fr_refl [] A8) (by decide) (by decide))
set_option maxRecDepth 100000 in
set_option maxHeartbeats 4000000 in
theorem k_63b_0_3 {cn N : Nat} {f : Nat → Nat} {l : List R5} {p q : Int32} {S : DS} (hD : kD mk S I A) (ho : dO S = false) (hmk : mks mk sn) (hn : 77 ≤ n ∧ n < 10000) (hu : u + 6 < 1000000) (hcn : cn ≤ 16) (hc : I 40 = nI cn) (hf : ∀ k, k < cn → f k < 16) (hsl : ∀ j, j < cn → A 30 j = nI (f j)) (hN : I 42 = nI N) (hNb : N + 4 < 2 ^ 31) (hB : BT 3 I A l p q) (hl1 : 1 ≤ l.length) (hl4 : l.length ≤ 4) (hnf : cn = 0 ∨ 128 < mB (dD S) (f (cn - 1)) + (eBt (nI (bB (dD S) (f (cn - 1)))) p q (nmb N l)).length) {s : Nat} (hs : s < 16) (hfr : frS (dD S) 16 0 = nI s) (hc16 : cn < 16) {Q : mO × mHp → Prop} (kk : dO (wrs S (hdW s 0 N :: apW s 8 (eBt (nI N) p q (nmb N l)))) = false → ∀ I' A', Fr [2, 3, 14, 15, 40, 42] I I' → Fr [0, 3, 4, 30, 25] A A' → kD mk (wrs S (hdW s 0 N :: apW s 8 (eBt (nI N) p q (nmb N l)))) I' A' → I' 42 = nI (N + l.length) → BT 3 I' A' (nmb N l) p q → I' 40 = nI (cn + 1) → A' 30 = upd (A 30) cn (nI s) → Q (.inl (some (.int (nI N))), hS n u I' A' J B mk sn L xs X)) (kx : dO (wrs S (hdW s 0 N :: apW s 8 (eBt (nI N) p q (nmb N l)))) = true → ∀ I' A', Up 60 I I' → Up 50 A A' → kD mk (wrs S (hdW s 0 N :: apW s 8 (eBt (nI N) p q (nmb N l)))) I' A' → Q (.inr n, hS (n + 1) (u + 6) I' A' J B mk sn L xs (va_up X n (.inr (9, []))))) : mq 63 0 [some (.ref 1), some (.ref 13), some (.ref 60), none, none, none] [] (hS n u I A J B mk sn L xs X) Q := by
  have hel := eBt_len (nI N) p q (nmb N l)
  rw [nmb_len] at hel
  obtain ⟨t, ht⟩ : ∃ x, x = eBt (nI N) p q (nmb N l) := ⟨_, rfl⟩
  rw [← ht] at kk kx hel
  have htb : ∀ i, gB0 t i < 256 := by
    rw [ht]
    exact gB0_by (eBt_by _ _ _ _)
  have ev : wrs S (hdW s 0 N :: apW s 8 (t)) = wr1 (wrs (wr1 S (hdW s 0 N)) (spW s 8 (8 + (t).length) (t) 4 8)) (mkW s (8 + (t).length)) := by
    show wrs (wr1 S (hdW s 0 N)) (apW s 8 t) = _
    unfold apW
    rw [wrs_app]
    rfl
  refine x_al1 (pc := 0) rfl rfl ?_
  refine g_13_7 (pc := 1) (v := nI N) rfl rfl hN ?_
  refine x_is1 (pc := 4) (ml' := [some (.ref 1), some (.ref 13), some (.ref 60), some (.int (nI N)), none, none]) rfl rfl ?_
  refine x_al1 (pc := 5) rfl rfl ?_
  refine g_60_0 (pc := 6) rfl rfl ?_
  refine x_il1 (pc := 9) rfl rfl ?_
  refine x_k (pc := 10) rfl rfl rfl ⟨Nat.le_of_ble_eq_true rfl, Nat.le_of_ble_eq_true rfl, Nat.le_of_ble_eq_true rfl⟩ rfl (k_64_3 (I := I) (A := A) (N := N) (l := l) hB hl4 (fun A1 g1 hB1 => ?_))
  show mq 63 13 [some (.ref 1), some (.ref 13), some (.ref 60), some (.int (nI N)), none, none] [] (hS n u I A1 J B mk sn L xs X) _
  refine x_al1 (pc := 13) rfl rfl ?_
  refine x_al1 (pc := 14) rfl rfl ?_
  refine x_al1 (pc := 15) rfl rfl ?_
  refine x_k (pc := 16) rfl rfl rfl ⟨Nat.le_of_ble_eq_true rfl, Nat.le_of_ble_eq_true rfl, Nat.le_of_ble_eq_true rfl⟩ rfl (k_65b_0_3 (I := I) (A := A1) (l := nmb N l) (kD_on hD ho (Fr_refl [] I) g1 (by decide) (by decide)) ho hcn hc hf (fun j hj => by rw [g1 30 (by decide)]; exact hsl j hj) hN hNb hB1 (by rw [nmb_len]; exact hl1) (by rw [nmb_len]; exact hl4) hnf hs hfr hc16 hmk hn hu (fun o2 I2 A2 f2 g2 h2 c2 d2 => ?_) (fun o2 I2 A2 f2 g2 h2 => mK_x rfl (kx (by rw [ev, wr1_off _ (by rw [wrs_off _ o2]; exact o2), wrs_off _ o2]; exact o2) I2 A2 f2 (Up_tr (Up_fr g1 (by decide)) g2) (by rw [ev, wr1_off _ (by rw [wrs_off _ o2]; exact o2), wrs_off _ o2]; exact h2))))
  show mq 63 19 [some (.ref 1), some (.ref 13), some (.ref 60), some (.int (nI N)), none, none] [.int (nI s)] (hS n u I2 A2 J B mk sn L xs X) _
  refine x_is2 (pc := 19) (ml' := [some (.ref 1), some (.ref 13), some (.ref 60), some (.int (nI N)), some (.int (nI s)), none]) rfl rfl ?_
  refine x_il2 (pc := 21) rfl rfl ?_
  refine x_ifN_ge (pc := 23) (t := 37) rfl rfl (by omega) ?_
  have kq := h2
  have oq := o2
  have bq := BT_fr2 hB1 f2 g2 (by decide) (by decide)
  have hb8 := hd_D o2 (by omega)
  have hfit8 : 8 + t.length ≤ 128 := by omega
  refine x_al1 (pc := 37) rfl rfl ?_
  refine g_1_0 (pc := 38) rfl rfl ?_
  refine x_il2 (pc := 41) rfl rfl ?_
  refine x_k (pc := 43) rfl rfl rfl ⟨Nat.le_of_ble_eq_true rfl, Nat.le_of_ble_eq_true rfl, Nat.le_of_ble_eq_true rfl⟩ rfl (mq_k (c_37 (I := I2) (A := A2) (D := dD (wr1 S (hdW s 0 N))) (kq).2.1 hs) ?_)
  show mq 63 46 [some (.ref 1), some (.ref 13), some (.ref 60), some (.int (nI N)), some (.int (nI s)), none] [.int (nI (mB (dD (wr1 S (hdW s 0 N))) s))] (hS n u I2 A2 J B mk sn L xs X) _
  refine x_top (y := nI 8) (congrArg nI hb8.1) ?_
  refine x_is2 (pc := 46) (ml' := [some (.ref 1), some (.ref 13), some (.ref 60), some (.int (nI N)), some (.int (nI s)), some (.int (nI 8))]) rfl rfl ?_
  refine x_al1 (pc := 48) rfl rfl ?_
  refine x_il2 (pc := 49) rfl rfl ?_
  refine x_al1 (pc := 51) rfl rfl ?_
  refine x_k (pc := 52) rfl rfl rfl ⟨Nat.le_of_ble_eq_true rfl, Nat.le_of_ble_eq_true rfl, Nat.le_of_ble_eq_true rfl⟩ rfl (k_66_3 (I := I2) (A := A2) (D := dD (wr1 S (hdW s 0 N))) (l := nmb N l) (p := p) (q := q) (kq).2.1 hs (by rw [nmb_len]; exact hl1) (by rw [nmb_len]; exact hl4) bq (fun I6 A6 f6 g6 h6 => ?_))
  show mq 63 55 [some (.ref 1), some (.ref 13), some (.ref 60), some (.int (nI N)), some (.int (nI s)), some (.int (nI 8))] [] (hS n u I6 A6 J B mk sn L xs X) _
  rw [hb8.2, ← ht] at h6
  have F6 : Fr [2, 3, 14, 15, 40, 42] I I6 := (Fr_cons (Fr_cons (Fr_refl _ _) f2 (by decide)) f6 (by decide))
  have G6 : Fr [0, 3, 4, 30, 25] A A6 := (Fr_cons (Fr_cons (Fr_cons (Fr_refl _ _) g1 (by decide)) g2 (by decide)) g6 (by decide))
  refine x_al1 (pc := 55) rfl rfl ?_
  refine x_il2 (pc := 56) rfl rfl ?_
  refine x_il2 (pc := 58) rfl rfl ?_
  refine x_k (pc := 60) rfl rfl rfl ⟨Nat.le_of_ble_eq_true rfl, Nat.le_of_ble_eq_true rfl, Nat.le_of_ble_eq_true rfl⟩ rfl (k_73 (I := I6) (A := A6) (S := wr1 S (hdW s 0 N)) (s := s) (m := 8) (t := t) hs htb hfit8 h6 (kD_on kq oq f6 g6 (by decide) (by decide)) oq hmk hn hu (fun o7 I7 A7 f7 g7 h7 => ?_) (fun o7 I7 A7 f7 g7 h7 => mK_x rfl (kx (by rw [ev, wr1_off _ o7]; exact o7) I7 A7 (Up_tr (Up_fr F6 (by decide)) f7) (Up_tr (Up_fr G6 (by decide)) g7) (by rw [ev, wr1_off _ o7]; exact h7))))
  show mq 63 63 [some (.ref 1), some (.ref 13), some (.ref 60), some (.int (nI N)), some (.int (nI s)), some (.int (nI 8))] [] (hS n u I7 A7 J B mk sn L xs X) _
  refine x_al1 (pc := 63) rfl rfl ?_
  refine x_il2 (pc := 64) rfl rfl ?_
  refine x_il2 (pc := 66) rfl rfl ?_
  refine x_al1 (pc := 68) rfl rfl ?_
  refine g_1_7 (pc := 69) rfl rfl ?_
  refine g_49_1 (pc := 72) (v := nI ((t).length)) rfl rfl ((f7 14 (by decide)).trans h6.1) ?_
  refine x_iaddN (pc := 75) (c := 8 + ((t).length)) rfl rfl ?_
  refine x_k (pc := 76) rfl rfl rfl ⟨Nat.le_of_ble_eq_true rfl, Nat.le_of_ble_eq_true rfl, Nat.le_of_ble_eq_true rfl⟩ rfl (k_74 (I := I7) (A := A7) (s := s) (v := 8 + (t).length) (S := wrs (wr1 S (hdW s 0 N)) (spW s 8 (8 + (t).length) (t) 4 8)) hs (by omega) h7 o7 hmk hn hu (fun o8 I8 A8 f8 g8 h8 => ?_) (fun o8 I8 A8 f8 g8 h8 => mK_x rfl (kx (by rw [ev]; exact o8) I8 A8 (Up_tr (Up_fr F6 (by decide)) (Up_tr (Up_fr f7 (by decide)) f8)) (Up_tr (Up_fr G6 (by decide)) (Up_tr (Up_fr g7 (by decide)) g8)) (by rw [ev]; exact h8))))
  show mq 63 79 [some (.ref 1), some (.ref 13), some (.ref 60), some (.int (nI N)), some (.int (nI s)), some (.int (nI 8))] [] (hS n u I8 A8 J B mk sn L xs X) _
  refine x_al1 (pc := 79) rfl rfl ?_
  refine x_il1 (pc := 80) rfl rfl ?_
  refine x_al1 (pc := 81) rfl rfl ?_
  refine g_60_0 (pc := 82) rfl rfl ?_
  refine g_61_5 (pc := 85) (v := nI l.length) rfl rfl ((f8 31 (by decide)).trans ((f7 31 (by decide)).trans ((f6 31 (by decide)).trans ((f2 31 (by decide)).trans hB.2.2.1)))) ?_
  refine x_iaddN (pc := 88) (c := N + l.length) rfl rfl ?_
  refine p_13_7 (pc := 89) rfl rfl ?_
  refine x_il1 (pc := 92) rfl rfl ?_
  refine x_ret (pc := 93) rfl rfl ?_
  exact kk (by rw [ev]; exact o8) _ _ (Fr_u (Fr_cons (Fr_cons (Fr_cons (Fr_cons (Fr_refl _ _) f2 (by decide)) f6 (by decide)) f7 (by decide)) f8 (by decide)) (by decide)) (Fr_cons (Fr_cons (Fr_cons (Fr_cons (Fr_cons (Fr_refl _ _) g1 (by decide)) g2 (by decide)) g6 (by decide)) g7 (by decide)) g8 (by decide)) (kD_on (by rw [ev]; exact h8) (by rw [ev]; exact o8) (Fr_up I8 42 _) (Fr_refl [] A8) (by decide) (by decide)) rfl (BT_fr2 (BT_fr2 (BT_fr2 (BT_fr2 bq f6 g6 (by decide) (by decide)) f7 g7 (by decide) (by decide)) f8 g8 (by decide) (by decide)) (Fr_up I8 42 _) (Fr_refl [] A8) (by decide) (by decide)) ((f8 40 (by decide)).trans ((f7 40 (by decide)).trans ((f6 40 (by decide)).trans c2))) (by rw [g8 30 (by decide), g7 30 (by decide), g6 30 (by decide), d2, g1 30 (by decide)])
set_option maxRecDepth 100000 in
set_option maxHeartbeats 4000000 in
theorem k_63c_0_3 {cn N : Nat} {f : Nat → Nat} {l : List R5} {p q : Int32} {S : DS} (hD : kD mk S I A) (ho : dO S = false) (hmk : mks mk sn) (hn : 77 ≤ n ∧ n < 10000) (hu : u + 6 < 1000000) (hcn : cn ≤ 16) (hc : I 40 = nI cn) (hf : ∀ k, k < cn → f k < 16) (hsl : ∀ j, j < cn → A 30 j = nI (f j)) (hN : I 42 = nI N) (hNb : N + 4 < 2 ^ 31) (hB : BT 3 I A l p q) (hl1 : 1 ≤ l.length) (hl4 : l.length ≤ 4) (hnf : cn = 0 ∨ 128 < mB (dD S) (f (cn - 1)) + (eBt (nI (bB (dD S) (f (cn - 1)))) p q (nmb N l)).length) (hfr : frS (dD S) 16 0 = -1) {Q : mO × mHp → Prop} (kr : ∀ I' A', Fr [14] I I' → Fr [3, 25] A A' → Q (.inr n, hS (n + 1) (u + 6) I' A' J B mk sn L xs (va_up X n (.inr (11, []))))) : mq 63 0 [some (.ref 1), some (.ref 13), some (.ref 60), none, none, none] [] (hS n u I A J B mk sn L xs X) Q := by
  refine x_al1 (pc := 0) rfl rfl ?_
  refine g_13_7 (pc := 1) (v := nI N) rfl rfl hN ?_
  refine x_is1 (pc := 4) (ml' := [some (.ref 1), some (.ref 13), some (.ref 60), some (.int (nI N)), none, none]) rfl rfl ?_
  refine x_al1 (pc := 5) rfl rfl ?_
  refine g_60_0 (pc := 6) rfl rfl ?_
  refine x_il1 (pc := 9) rfl rfl ?_
  refine x_k (pc := 10) rfl rfl rfl ⟨Nat.le_of_ble_eq_true rfl, Nat.le_of_ble_eq_true rfl, Nat.le_of_ble_eq_true rfl⟩ rfl (k_64_3 (I := I) (A := A) (N := N) (l := l) hB hl4 (fun A1 g1 hB1 => ?_))
  show mq 63 13 [some (.ref 1), some (.ref 13), some (.ref 60), some (.int (nI N)), none, none] [] (hS n u I A1 J B mk sn L xs X) _
  refine x_al1 (pc := 13) rfl rfl ?_
  refine x_al1 (pc := 14) rfl rfl ?_
  refine x_al1 (pc := 15) rfl rfl ?_
  refine x_k (pc := 16) rfl rfl rfl ⟨Nat.le_of_ble_eq_true rfl, Nat.le_of_ble_eq_true rfl, Nat.le_of_ble_eq_true rfl⟩ rfl (k_65c_0_3 (I := I) (A := A1) (l := nmb N l) (kD_on hD ho (Fr_refl [] I) g1 (by decide) (by decide)) ho hcn hc hf (fun j hj => by rw [g1 30 (by decide)]; exact hsl j hj) hN hNb hB1 (by rw [nmb_len]; exact hl1) (by rw [nmb_len]; exact hl4) hnf hfr (fun I2 A2 f2 g2 => ?_))
  show mq 63 19 [some (.ref 1), some (.ref 13), some (.ref 60), some (.int (nI N)), none, none] [.int (-1)] (hS n u I2 A2 J B mk sn L xs X) _
  refine x_is2 (pc := 19) (ml' := [some (.ref 1), some (.ref 13), some (.ref 60), some (.int (nI N)), some (.int (-1)), none]) rfl rfl ?_
  refine x_il2 (pc := 21) rfl rfl ?_
  refine x_if_ge (pc := 23) (t := 37) rfl rfl rfl (fun c => absurd c (by decide)) (fun _ => ?_)
  refine x_thr (pc := 26) rfl rfl hn hu rfl ⟨Nat.le_of_ble_eq_true rfl, Nat.le_of_ble_eq_true rfl⟩ ?_
  exact kr _ _ (Fr_cons (Fr_refl _ _) f2 (by decide)) (Fr_cons (Fr_cons (Fr_refl _ _) g1 (by decide)) g2 (by decide))
set_option maxRecDepth 100000 in
set_option maxHeartbeats 4000000 in
theorem k_63_0_3 {cn N : Nat} {f : Nat → Nat} {l : List R5} {p q : Int32} {S : DS} (hD : kD mk S I A) (ho : dO S = false) (hmk : mks mk sn) (hn : 77 ≤ n ∧ n < 10000) (hu : u + 6 < 1000000) (hcn : cn ≤ 16) (hc : I 40 = nI cn) (hf : ∀ k, k < cn → f k < 16) (hsl : ∀ j, j < cn → A 30 j = nI (f j)) (hN : I 42 = nI N) (hNb : N + 4 < 2 ^ 31) (hB : BT 3 I A l p q) (hl1 : 1 ≤ l.length) (hl4 : l.length ≤ 4) (hroom : frS (dD S) 16 0 = -1 ∨ cn < 16) {Q : mO × mHp → Prop} (kk : ∀ S' f' cn', apS S 0 f cn N p q (nmb N l) = some (S', f', cn') → dO S' = false → ∀ I' A', Fr [2, 3, 14, 15, 40, 42] I I' → Fr [0, 3, 4, 30, 25] A A' → kD mk S' I' A' → I' 42 = nI (N + l.length) → BT 3 I' A' (nmb N l) p q → I' 40 = nI cn' → (∀ j, j < cn' → A' 30 j = nI (f' j)) → Q (.inl (some (.int (nI N))), hS n u I' A' J B mk sn L xs X)) (kx : ∀ S' f' cn', apS S 0 f cn N p q (nmb N l) = some (S', f', cn') → dO S' = true → ∀ I' A', Up 60 I I' → Up 50 A A' → kD mk S' I' A' → Q (.inr n, hS (n + 1) (u + 6) I' A' J B mk sn L xs (va_up X n (.inr (9, []))))) (kr : apS S 0 f cn N p q (nmb N l) = none → ∀ I' A', Fr [14] I I' → Fr [3, 25] A A' → Q (.inr n, hS (n + 1) (u + 6) I' A' J B mk sn L xs (va_up X n (.inr (11, []))))) : mq 63 0 [some (.ref 1), some (.ref 13), some (.ref 60), none, none, none] [] (hS n u I A J B mk sn L xs X) Q := by
  by_cases hfit : 0 < cn ∧ mB (dD S) (f (cn - 1)) + (eBt (nI (bB (dD S) (f (cn - 1)))) p q (nmb N l)).length ≤ 128
  · have e : apS S 0 f cn N p q (nmb N l) = some (_, f, cn) := if_pos hfit
    refine k_63a_0_3 hD ho hmk hn hu hcn hc hf hsl hN hNb hB hl1 hl4 hfit.1 hfit.2 (fun o1 I1 A1 f1 g1 h1 n1 b1 => ?_) (fun o1 I1 A1 f1 g1 h1 => kx _ _ _ e o1 I1 A1 f1 g1 h1)
    exact kk _ _ _ e o1 I1 A1 (Fr_cons (Fr_refl _ I) f1 (by decide)) (Fr_cons (Fr_refl _ A) g1 (by decide)) h1 n1 b1 ((f1 40 (by decide)).trans hc) (fun j hj => by rw [g1 30 (by decide)]; exact hsl j hj)
  · have hnf : cn = 0 ∨ 128 < mB (dD S) (f (cn - 1)) + (eBt (nI (bB (dD S) (f (cn - 1)))) p q (nmb N l)).length := by
      by_cases h0 : cn = 0
      · exact Or.inl h0
      · exact Or.inr (Nat.lt_of_not_le (fun q => hfit ⟨Nat.pos_of_ne_zero h0, q⟩))
    by_cases hfr : frS (dD S) 16 0 = -1
    · have e : apS S 0 f cn N p q (nmb N l) = none := (if_neg hfit).trans (if_pos hfr)
      exact k_63c_0_3 hD ho hmk hn hu hcn hc hf hsl hN hNb hB hl1 hl4 hnf hfr (fun I1 A1 f1 g1 => kr e I1 A1 f1 g1)
    · have e : apS S 0 f cn N p q (nmb N l) = some (_, _, cn + 1) := (if_neg hfit).trans (if_neg hfr)
      rcases frN_spec (dD S) 16 0 with h5 | h5
      · exact absurd h5.1 hfr
      · have hc16 : cn < 16 := by
          rcases hroom with h6 | h6
          · exact absurd h6 hfr
          · exact h6
        refine k_63b_0_3 hD ho hmk hn hu hcn hc hf hsl hN hNb hB hl1 hl4 hnf (by omega) h5.1 hc16 (fun o1 I1 A1 f1 g1 h1 n1 b1 c1 d1 => ?_) (fun o1 I1 A1 f1 g1 h1 => kx _ _ _ e o1 I1 A1 f1 g1 h1)
        refine kk _ _ _ e o1 I1 A1 f1 g1 h1 n1 b1 c1 (fun j hj => ?_)
        rw [d1]
        by_cases h7 : j = cn
        · rw [h7, pk_us, if_pos rfl]
        · rw [pk_un h7, if_neg h7]
          exact hsl j (by omega)
set_option maxRecDepth 100000 in
set_option maxHeartbeats 4000000 in
theorem k_63a_1_2 {cn N : Nat} {f : Nat → Nat} {l : List R5} {p q : Int32} {S : DS} (hD : kD mk S I A) (ho : dO S = false) (hmk : mks mk sn) (hn : 77 ≤ n ∧ n < 10000) (hu : u + 6 < 1000000) (hcn : cn ≤ 16) (hc : I 43 = nI cn) (hf : ∀ k, k < cn → f k < 16) (hsl : ∀ j, j < cn → A 34 j = nI (f j)) (hN : I 45 = nI N) (hNb : N + 4 < 2 ^ 31) (hB : BT 2 I A l p q) (hl1 : 1 ≤ l.length) (hl4 : l.length ≤ 4) (hp : 0 < cn) (hfit : mB (dD S) (f (cn - 1)) + (eBt (nI (bB (dD S) (f (cn - 1)))) p q (nmb N l)).length ≤ 128) {Q : mO × mHp → Prop} (kk : dO (wrs S (apW (f (cn - 1)) (mB (dD S) (f (cn - 1))) (eBt (nI (bB (dD S) (f (cn - 1)))) p q (nmb N l)))) = false → ∀ I' A', Fr [2, 3, 14, 15, 45] I I' → Fr [0, 3, 4, 20] A A' → kD mk (wrs S (apW (f (cn - 1)) (mB (dD S) (f (cn - 1))) (eBt (nI (bB (dD S) (f (cn - 1)))) p q (nmb N l)))) I' A' → I' 45 = nI (N + l.length) → BT 2 I' A' (nmb N l) p q → Q (.inl (some (.int (nI N))), hS n u I' A' J B mk sn L xs X)) (kx : dO (wrs S (apW (f (cn - 1)) (mB (dD S) (f (cn - 1))) (eBt (nI (bB (dD S) (f (cn - 1)))) p q (nmb N l)))) = true → ∀ I' A', Up 60 I I' → Up 50 A A' → kD mk (wrs S (apW (f (cn - 1)) (mB (dD S) (f (cn - 1))) (eBt (nI (bB (dD S) (f (cn - 1)))) p q (nmb N l)))) I' A' → Q (.inr n, hS (n + 1) (u + 6) I' A' J B mk sn L xs (va_up X n (.inr (9, []))))) : mq 63 0 [some (.ref 1), some (.ref 18), some (.ref 53), none, none, none] [] (hS n u I A J B mk sn L xs X) Q := by
  obtain ⟨t, ht⟩ : ∃ x, x = eBt (nI (bB (dD S) (f (cn - 1)))) p q (nmb N l) := ⟨_, rfl⟩
  rw [← ht] at hfit kk kx
  have htb : ∀ i, gB0 t i < 256 := by
    rw [ht]
    exact gB0_by (eBt_by _ _ _ _)
  refine x_al1 (pc := 0) rfl rfl ?_
  refine g_18_7 (pc := 1) (v := nI N) rfl rfl hN ?_
  refine x_is1 (pc := 4) (ml' := [some (.ref 1), some (.ref 18), some (.ref 53), some (.int (nI N)), none, none]) rfl rfl ?_
  refine x_al1 (pc := 5) rfl rfl ?_
  refine g_53_0 (pc := 6) rfl rfl ?_
  refine x_il1 (pc := 9) rfl rfl ?_
  refine x_k (pc := 10) rfl rfl rfl ⟨Nat.le_of_ble_eq_true rfl, Nat.le_of_ble_eq_true rfl, Nat.le_of_ble_eq_true rfl⟩ rfl (k_64_2 (I := I) (A := A) (N := N) (l := l) hB hl4 (fun A1 g1 hB1 => ?_))
  show mq 63 13 [some (.ref 1), some (.ref 18), some (.ref 53), some (.int (nI N)), none, none] [] (hS n u I A1 J B mk sn L xs X) _
  refine x_al1 (pc := 13) rfl rfl ?_
  refine x_al1 (pc := 14) rfl rfl ?_
  refine x_al1 (pc := 15) rfl rfl ?_
  refine x_k (pc := 16) rfl rfl rfl ⟨Nat.le_of_ble_eq_true rfl, Nat.le_of_ble_eq_true rfl, Nat.le_of_ble_eq_true rfl⟩ rfl (k_65a_1_2 (I := I) (A := A1) (l := nmb N l) (kD_on hD ho (Fr_refl [] I) g1 (by decide) (by decide)) ho hcn hc hf (fun j hj => by rw [g1 34 (by decide)]; exact hsl j hj) hN hNb hB1 (by rw [nmb_len]; exact hl1) (by rw [nmb_len]; exact hl4) hp (by rw [← ht]; exact hfit) (fun I2 A2 f2 g2 => ?_))
  show mq 63 19 [some (.ref 1), some (.ref 18), some (.ref 53), some (.int (nI N)), none, none] [.int (nI (f (cn - 1)))] (hS n u I2 A2 J B mk sn L xs X) _
  refine x_is2 (pc := 19) (ml' := [some (.ref 1), some (.ref 18), some (.ref 53), some (.int (nI N)), some (.int (nI (f (cn - 1)))), none]) rfl rfl ?_
  refine x_il2 (pc := 21) rfl rfl ?_
  refine x_ifN_ge (pc := 23) (t := 37) rfl rfl (by have := hf (cn - 1) (by omega); omega) ?_
  have kq := kD_on (kD_on hD ho (Fr_refl [] I) g1 (by decide) (by decide)) ho f2 g2 (by decide) (by decide)
  have oq := ho
  have bq := BT_fr2 hB1 f2 g2 (by decide) (by decide)
  have hmb := mB_lt hD.2.1.2.1 (f (cn - 1))
  have hfit8 : mB (dD S) (f (cn - 1)) + t.length ≤ 128 := hfit
  have ev : wrs S (apW (f (cn - 1)) (mB (dD S) (f (cn - 1))) (t)) = wr1 (wrs S (spW (f (cn - 1)) (mB (dD S) (f (cn - 1))) (mB (dD S) (f (cn - 1)) + (t).length) (t) 4 (mB (dD S) (f (cn - 1))))) (mkW (f (cn - 1)) (mB (dD S) (f (cn - 1)) + (t).length)) := by
    unfold apW
    rw [wrs_app]
    rfl
  refine x_al1 (pc := 37) rfl rfl ?_
  refine g_1_0 (pc := 38) rfl rfl ?_
  refine x_il2 (pc := 41) rfl rfl ?_
  refine x_k (pc := 43) rfl rfl rfl ⟨Nat.le_of_ble_eq_true rfl, Nat.le_of_ble_eq_true rfl, Nat.le_of_ble_eq_true rfl⟩ rfl (mq_k (c_37 (I := I2) (A := A2) (D := dD (S)) (kq).2.1 (hf _ (by omega))) ?_)
  show mq 63 46 [some (.ref 1), some (.ref 18), some (.ref 53), some (.int (nI N)), some (.int (nI (f (cn - 1)))), none] [.int (nI (mB (dD (S)) (f (cn - 1))))] (hS n u I2 A2 J B mk sn L xs X) _
  refine x_is2 (pc := 46) (ml' := [some (.ref 1), some (.ref 18), some (.ref 53), some (.int (nI N)), some (.int (nI (f (cn - 1)))), some (.int (nI (mB (dD (S)) (f (cn - 1)))))]) rfl rfl ?_
  refine x_al1 (pc := 48) rfl rfl ?_
  refine x_il2 (pc := 49) rfl rfl ?_
  refine x_al1 (pc := 51) rfl rfl ?_
  refine x_k (pc := 52) rfl rfl rfl ⟨Nat.le_of_ble_eq_true rfl, Nat.le_of_ble_eq_true rfl, Nat.le_of_ble_eq_true rfl⟩ rfl (k_66_2 (I := I2) (A := A2) (D := dD (S)) (l := nmb N l) (p := p) (q := q) (kq).2.1 (hf _ (by omega)) (by rw [nmb_len]; exact hl1) (by rw [nmb_len]; exact hl4) bq (fun I6 A6 f6 g6 h6 => ?_))
  show mq 63 55 [some (.ref 1), some (.ref 18), some (.ref 53), some (.int (nI N)), some (.int (nI (f (cn - 1)))), some (.int (nI (mB (dD (S)) (f (cn - 1)))))] [] (hS n u I6 A6 J B mk sn L xs X) _
  rw [← ht] at h6
  have F6 : Fr [2, 3, 14, 15, 45] I I6 := (Fr_cons (Fr_cons (Fr_refl _ _) f2 (by decide)) f6 (by decide))
  have G6 : Fr [0, 3, 4, 20] A A6 := (Fr_cons (Fr_cons (Fr_cons (Fr_refl _ _) g1 (by decide)) g2 (by decide)) g6 (by decide))
  refine x_al1 (pc := 55) rfl rfl ?_
  refine x_il2 (pc := 56) rfl rfl ?_
  refine x_il2 (pc := 58) rfl rfl ?_
  refine x_k (pc := 60) rfl rfl rfl ⟨Nat.le_of_ble_eq_true rfl, Nat.le_of_ble_eq_true rfl, Nat.le_of_ble_eq_true rfl⟩ rfl (k_73 (I := I6) (A := A6) (S := S) (s := f (cn - 1)) (m := mB (dD S) (f (cn - 1))) (t := t) (hf _ (by omega)) htb hfit8 h6 (kD_on kq oq f6 g6 (by decide) (by decide)) oq hmk hn hu (fun o7 I7 A7 f7 g7 h7 => ?_) (fun o7 I7 A7 f7 g7 h7 => mK_x rfl (kx (by rw [ev, wr1_off _ o7]; exact o7) I7 A7 (Up_tr (Up_fr F6 (by decide)) f7) (Up_tr (Up_fr G6 (by decide)) g7) (by rw [ev, wr1_off _ o7]; exact h7))))
  show mq 63 63 [some (.ref 1), some (.ref 18), some (.ref 53), some (.int (nI N)), some (.int (nI (f (cn - 1)))), some (.int (nI (mB (dD (S)) (f (cn - 1)))))] [] (hS n u I7 A7 J B mk sn L xs X) _
  refine x_al1 (pc := 63) rfl rfl ?_
  refine x_il2 (pc := 64) rfl rfl ?_
  refine x_il2 (pc := 66) rfl rfl ?_
  refine x_al1 (pc := 68) rfl rfl ?_
  refine g_1_7 (pc := 69) rfl rfl ?_
  refine g_49_1 (pc := 72) (v := nI ((t).length)) rfl rfl ((f7 14 (by decide)).trans h6.1) ?_
  refine x_iaddN (pc := 75) (c := (mB (dD (S)) (f (cn - 1))) + ((t).length)) rfl rfl ?_
  refine x_k (pc := 76) rfl rfl rfl ⟨Nat.le_of_ble_eq_true rfl, Nat.le_of_ble_eq_true rfl, Nat.le_of_ble_eq_true rfl⟩ rfl (k_74 (I := I7) (A := A7) (s := f (cn - 1)) (v := (mB (dD S) (f (cn - 1))) + (t).length) (S := wrs (S) (spW (f (cn - 1)) (mB (dD S) (f (cn - 1))) ((mB (dD S) (f (cn - 1))) + (t).length) (t) 4 (mB (dD S) (f (cn - 1))))) (hf _ (by omega)) (by omega) h7 o7 hmk hn hu (fun o8 I8 A8 f8 g8 h8 => ?_) (fun o8 I8 A8 f8 g8 h8 => mK_x rfl (kx (by rw [ev]; exact o8) I8 A8 (Up_tr (Up_fr F6 (by decide)) (Up_tr (Up_fr f7 (by decide)) f8)) (Up_tr (Up_fr G6 (by decide)) (Up_tr (Up_fr g7 (by decide)) g8)) (by rw [ev]; exact h8))))
  show mq 63 79 [some (.ref 1), some (.ref 18), some (.ref 53), some (.int (nI N)), some (.int (nI (f (cn - 1)))), some (.int (nI (mB (dD (S)) (f (cn - 1)))))] [] (hS n u I8 A8 J B mk sn L xs X) _
  refine x_al1 (pc := 79) rfl rfl ?_
  refine x_il1 (pc := 80) rfl rfl ?_
  refine x_al1 (pc := 81) rfl rfl ?_
  refine g_53_0 (pc := 82) rfl rfl ?_
  refine g_54_5 (pc := 85) (v := nI l.length) rfl rfl ((f8 28 (by decide)).trans ((f7 28 (by decide)).trans ((f6 28 (by decide)).trans ((f2 28 (by decide)).trans hB.2.2.1)))) ?_
  refine x_iaddN (pc := 88) (c := N + l.length) rfl rfl ?_
  refine p_18_7 (pc := 89) rfl rfl ?_
  refine x_il1 (pc := 92) rfl rfl ?_
  refine x_ret (pc := 93) rfl rfl ?_
  exact kk (by rw [ev]; exact o8) _ _ (Fr_u (Fr_cons (Fr_cons (Fr_cons (Fr_cons (Fr_refl _ _) f2 (by decide)) f6 (by decide)) f7 (by decide)) f8 (by decide)) (by decide)) (Fr_cons (Fr_cons (Fr_cons (Fr_cons (Fr_cons (Fr_refl _ _) g1 (by decide)) g2 (by decide)) g6 (by decide)) g7 (by decide)) g8 (by decide)) (kD_on (by rw [ev]; exact h8) (by rw [ev]; exact o8) (Fr_up I8 45 _) (Fr_refl [] A8) (by decide) (by decide)) rfl (BT_fr2 (BT_fr2 (BT_fr2 (BT_fr2 bq f6 g6 (by decide) (by decide)) f7 g7 (by decide) (by decide)) f8 g8 (by decide) (by decide)) (Fr_up I8 45 _) (Fr_refl [] A8) (by decide) (by decide))
set_option maxRecDepth 100000 in
set_option maxHeartbeats 4000000 in
theorem k_63b_1_2 {cn N : Nat} {f : Nat → Nat} {l : List R5} {p q : Int32} {S : DS} (hD : kD mk S I A) (ho : dO S = false) (hmk : mks mk sn) (hn : 77 ≤ n ∧ n < 10000) (hu : u + 6 < 1000000) (hcn : cn ≤ 16) (hc : I 43 = nI cn) (hf : ∀ k, k < cn → f k < 16) (hsl : ∀ j, j < cn → A 34 j = nI (f j)) (hN : I 45 = nI N) (hNb : N + 4 < 2 ^ 31) (hB : BT 2 I A l p q) (hl1 : 1 ≤ l.length) (hl4 : l.length ≤ 4) (hnf : cn = 0 ∨ 128 < mB (dD S) (f (cn - 1)) + (eBt (nI (bB (dD S) (f (cn - 1)))) p q (nmb N l)).length) {s : Nat} (hs : s < 16) (hfr : frS (dD S) 16 0 = nI s) (hc16 : cn < 16) {Q : mO × mHp → Prop} (kk : dO (wrs S (hdW s 1 N :: apW s 8 (eBt (nI N) p q (nmb N l)))) = false → ∀ I' A', Fr [2, 3, 14, 15, 43, 45] I I' → Fr [0, 3, 4, 34, 20] A A' → kD mk (wrs S (hdW s 1 N :: apW s 8 (eBt (nI N) p q (nmb N l)))) I' A' → I' 45 = nI (N + l.length) → BT 2 I' A' (nmb N l) p q → I' 43 = nI (cn + 1) → A' 34 = upd (A 34) cn (nI s) → Q (.inl (some (.int (nI N))), hS n u I' A' J B mk sn L xs X)) (kx : dO (wrs S (hdW s 1 N :: apW s 8 (eBt (nI N) p q (nmb N l)))) = true → ∀ I' A', Up 60 I I' → Up 50 A A' → kD mk (wrs S (hdW s 1 N :: apW s 8 (eBt (nI N) p q (nmb N l)))) I' A' → Q (.inr n, hS (n + 1) (u + 6) I' A' J B mk sn L xs (va_up X n (.inr (9, []))))) : mq 63 0 [some (.ref 1), some (.ref 18), some (.ref 53), none, none, none] [] (hS n u I A J B mk sn L xs X) Q := by
  have hel := eBt_len (nI N) p q (nmb N l)
  rw [nmb_len] at hel
  obtain ⟨t, ht⟩ : ∃ x, x = eBt (nI N) p q (nmb N l) := ⟨_, rfl⟩
  rw [← ht] at kk kx hel
  have htb : ∀ i, gB0 t i < 256 := by
    rw [ht]
    exact gB0_by (eBt_by _ _ _ _)
  have ev : wrs S (hdW s 1 N :: apW s 8 (t)) = wr1 (wrs (wr1 S (hdW s 1 N)) (spW s 8 (8 + (t).length) (t) 4 8)) (mkW s (8 + (t).length)) := by
    show wrs (wr1 S (hdW s 1 N)) (apW s 8 t) = _
    unfold apW
    rw [wrs_app]
    rfl
  refine x_al1 (pc := 0) rfl rfl ?_
  refine g_18_7 (pc := 1) (v := nI N) rfl rfl hN ?_
  refine x_is1 (pc := 4) (ml' := [some (.ref 1), some (.ref 18), some (.ref 53), some (.int (nI N)), none, none]) rfl rfl ?_
  refine x_al1 (pc := 5) rfl rfl ?_
  refine g_53_0 (pc := 6) rfl rfl ?_
  refine x_il1 (pc := 9) rfl rfl ?_
  refine x_k (pc := 10) rfl rfl rfl ⟨Nat.le_of_ble_eq_true rfl, Nat.le_of_ble_eq_true rfl, Nat.le_of_ble_eq_true rfl⟩ rfl (k_64_2 (I := I) (A := A) (N := N) (l := l) hB hl4 (fun A1 g1 hB1 => ?_))
  show mq 63 13 [some (.ref 1), some (.ref 18), some (.ref 53), some (.int (nI N)), none, none] [] (hS n u I A1 J B mk sn L xs X) _
  refine x_al1 (pc := 13) rfl rfl ?_
  refine x_al1 (pc := 14) rfl rfl ?_
  refine x_al1 (pc := 15) rfl rfl ?_
  refine x_k (pc := 16) rfl rfl rfl ⟨Nat.le_of_ble_eq_true rfl, Nat.le_of_ble_eq_true rfl, Nat.le_of_ble_eq_true rfl⟩ rfl (k_65b_1_2 (I := I) (A := A1) (l := nmb N l) (kD_on hD ho (Fr_refl [] I) g1 (by decide) (by decide)) ho hcn hc hf (fun j hj => by rw [g1 34 (by decide)]; exact hsl j hj) hN hNb hB1 (by rw [nmb_len]; exact hl1) (by rw [nmb_len]; exact hl4) hnf hs hfr hc16 hmk hn hu (fun o2 I2 A2 f2 g2 h2 c2 d2 => ?_) (fun o2 I2 A2 f2 g2 h2 => mK_x rfl (kx (by rw [ev, wr1_off _ (by rw [wrs_off _ o2]; exact o2), wrs_off _ o2]; exact o2) I2 A2 f2 (Up_tr (Up_fr g1 (by decide)) g2) (by rw [ev, wr1_off _ (by rw [wrs_off _ o2]; exact o2), wrs_off _ o2]; exact h2))))
  show mq 63 19 [some (.ref 1), some (.ref 18), some (.ref 53), some (.int (nI N)), none, none] [.int (nI s)] (hS n u I2 A2 J B mk sn L xs X) _
  refine x_is2 (pc := 19) (ml' := [some (.ref 1), some (.ref 18), some (.ref 53), some (.int (nI N)), some (.int (nI s)), none]) rfl rfl ?_
  refine x_il2 (pc := 21) rfl rfl ?_
  refine x_ifN_ge (pc := 23) (t := 37) rfl rfl (by omega) ?_
  have kq := h2
  have oq := o2
  have bq := BT_fr2 hB1 f2 g2 (by decide) (by decide)
  have hb8 := hd_D o2 (by omega)
  have hfit8 : 8 + t.length ≤ 128 := by omega
  refine x_al1 (pc := 37) rfl rfl ?_
  refine g_1_0 (pc := 38) rfl rfl ?_
  refine x_il2 (pc := 41) rfl rfl ?_
  refine x_k (pc := 43) rfl rfl rfl ⟨Nat.le_of_ble_eq_true rfl, Nat.le_of_ble_eq_true rfl, Nat.le_of_ble_eq_true rfl⟩ rfl (mq_k (c_37 (I := I2) (A := A2) (D := dD (wr1 S (hdW s 1 N))) (kq).2.1 hs) ?_)
  show mq 63 46 [some (.ref 1), some (.ref 18), some (.ref 53), some (.int (nI N)), some (.int (nI s)), none] [.int (nI (mB (dD (wr1 S (hdW s 1 N))) s))] (hS n u I2 A2 J B mk sn L xs X) _
  refine x_top (y := nI 8) (congrArg nI hb8.1) ?_
  refine x_is2 (pc := 46) (ml' := [some (.ref 1), some (.ref 18), some (.ref 53), some (.int (nI N)), some (.int (nI s)), some (.int (nI 8))]) rfl rfl ?_
  refine x_al1 (pc := 48) rfl rfl ?_
  refine x_il2 (pc := 49) rfl rfl ?_
  refine x_al1 (pc := 51) rfl rfl ?_
  refine x_k (pc := 52) rfl rfl rfl ⟨Nat.le_of_ble_eq_true rfl, Nat.le_of_ble_eq_true rfl, Nat.le_of_ble_eq_true rfl⟩ rfl (k_66_2 (I := I2) (A := A2) (D := dD (wr1 S (hdW s 1 N))) (l := nmb N l) (p := p) (q := q) (kq).2.1 hs (by rw [nmb_len]; exact hl1) (by rw [nmb_len]; exact hl4) bq (fun I6 A6 f6 g6 h6 => ?_))
  show mq 63 55 [some (.ref 1), some (.ref 18), some (.ref 53), some (.int (nI N)), some (.int (nI s)), some (.int (nI 8))] [] (hS n u I6 A6 J B mk sn L xs X) _
  rw [hb8.2, ← ht] at h6
  have F6 : Fr [2, 3, 14, 15, 43, 45] I I6 := (Fr_cons (Fr_cons (Fr_refl _ _) f2 (by decide)) f6 (by decide))
  have G6 : Fr [0, 3, 4, 34, 20] A A6 := (Fr_cons (Fr_cons (Fr_cons (Fr_refl _ _) g1 (by decide)) g2 (by decide)) g6 (by decide))
  refine x_al1 (pc := 55) rfl rfl ?_
  refine x_il2 (pc := 56) rfl rfl ?_
  refine x_il2 (pc := 58) rfl rfl ?_
  refine x_k (pc := 60) rfl rfl rfl ⟨Nat.le_of_ble_eq_true rfl, Nat.le_of_ble_eq_true rfl, Nat.le_of_ble_eq_true rfl⟩ rfl (k_73 (I := I6) (A := A6) (S := wr1 S (hdW s 1 N)) (s := s) (m := 8) (t := t) hs htb hfit8 h6 (kD_on kq oq f6 g6 (by decide) (by decide)) oq hmk hn hu (fun o7 I7 A7 f7 g7 h7 => ?_) (fun o7 I7 A7 f7 g7 h7 => mK_x rfl (kx (by rw [ev, wr1_off _ o7]; exact o7) I7 A7 (Up_tr (Up_fr F6 (by decide)) f7) (Up_tr (Up_fr G6 (by decide)) g7) (by rw [ev, wr1_off _ o7]; exact h7))))
  show mq 63 63 [some (.ref 1), some (.ref 18), some (.ref 53), some (.int (nI N)), some (.int (nI s)), some (.int (nI 8))] [] (hS n u I7 A7 J B mk sn L xs X) _
  refine x_al1 (pc := 63) rfl rfl ?_
  refine x_il2 (pc := 64) rfl rfl ?_
  refine x_il2 (pc := 66) rfl rfl ?_
  refine x_al1 (pc := 68) rfl rfl ?_
  refine g_1_7 (pc := 69) rfl rfl ?_
  refine g_49_1 (pc := 72) (v := nI ((t).length)) rfl rfl ((f7 14 (by decide)).trans h6.1) ?_
  refine x_iaddN (pc := 75) (c := 8 + ((t).length)) rfl rfl ?_
  refine x_k (pc := 76) rfl rfl rfl ⟨Nat.le_of_ble_eq_true rfl, Nat.le_of_ble_eq_true rfl, Nat.le_of_ble_eq_true rfl⟩ rfl (k_74 (I := I7) (A := A7) (s := s) (v := 8 + (t).length) (S := wrs (wr1 S (hdW s 1 N)) (spW s 8 (8 + (t).length) (t) 4 8)) hs (by omega) h7 o7 hmk hn hu (fun o8 I8 A8 f8 g8 h8 => ?_) (fun o8 I8 A8 f8 g8 h8 => mK_x rfl (kx (by rw [ev]; exact o8) I8 A8 (Up_tr (Up_fr F6 (by decide)) (Up_tr (Up_fr f7 (by decide)) f8)) (Up_tr (Up_fr G6 (by decide)) (Up_tr (Up_fr g7 (by decide)) g8)) (by rw [ev]; exact h8))))
  show mq 63 79 [some (.ref 1), some (.ref 18), some (.ref 53), some (.int (nI N)), some (.int (nI s)), some (.int (nI 8))] [] (hS n u I8 A8 J B mk sn L xs X) _
  refine x_al1 (pc := 79) rfl rfl ?_
  refine x_il1 (pc := 80) rfl rfl ?_
  refine x_al1 (pc := 81) rfl rfl ?_
  refine g_53_0 (pc := 82) rfl rfl ?_
  refine g_54_5 (pc := 85) (v := nI l.length) rfl rfl ((f8 28 (by decide)).trans ((f7 28 (by decide)).trans ((f6 28 (by decide)).trans ((f2 28 (by decide)).trans hB.2.2.1)))) ?_
  refine x_iaddN (pc := 88) (c := N + l.length) rfl rfl ?_
  refine p_18_7 (pc := 89) rfl rfl ?_
  refine x_il1 (pc := 92) rfl rfl ?_
  refine x_ret (pc := 93) rfl rfl ?_
  exact kk (by rw [ev]; exact o8) _ _ (Fr_u (Fr_cons (Fr_cons (Fr_cons (Fr_cons (Fr_refl _ _) f2 (by decide)) f6 (by decide)) f7 (by decide)) f8 (by decide)) (by decide)) (Fr_cons (Fr_cons (Fr_cons (Fr_cons (Fr_cons (Fr_refl _ _) g1 (by decide)) g2 (by decide)) g6 (by decide)) g7 (by decide)) g8 (by decide)) (kD_on (by rw [ev]; exact h8) (by rw [ev]; exact o8) (Fr_up I8 45 _) (Fr_refl [] A8) (by decide) (by decide)) rfl (BT_fr2 (BT_fr2 (BT_fr2 (BT_fr2 bq f6 g6 (by decide) (by decide)) f7 g7 (by decide) (by decide)) f8 g8 (by decide) (by decide)) (Fr_up I8 45 _) (Fr_refl [] A8) (by decide) (by decide)) ((f8 43 (by decide)).trans ((f7 43 (by decide)).trans ((f6 43 (by decide)).trans c2))) (by rw [g8 34 (by decide), g7 34 (by decide), g6 34 (by decide), d2, g1 34 (by decide)])
set_option maxRecDepth 100000 in
set_option maxHeartbeats 4000000 in
theorem k_63c_1_2 {cn N : Nat} {f : Nat → Nat} {l : List R5} {p q : Int32} {S : DS} (hD : kD mk S I A) (ho : dO S = false) (hmk : mks mk sn) (hn : 77 ≤ n ∧ n < 10000) (hu : u + 6 < 1000000) (hcn : cn ≤ 16) (hc : I 43 = nI cn) (hf : ∀ k, k < cn → f k < 16) (hsl : ∀ j, j < cn → A 34 j = nI (f j)) (hN : I 45 = nI N) (hNb : N + 4 < 2 ^ 31) (hB : BT 2 I A l p q) (hl1 : 1 ≤ l.length) (hl4 : l.length ≤ 4) (hnf : cn = 0 ∨ 128 < mB (dD S) (f (cn - 1)) + (eBt (nI (bB (dD S) (f (cn - 1)))) p q (nmb N l)).length) (hfr : frS (dD S) 16 0 = -1) {Q : mO × mHp → Prop} (kr : ∀ I' A', Fr [14] I I' → Fr [3, 20] A A' → Q (.inr n, hS (n + 1) (u + 6) I' A' J B mk sn L xs (va_up X n (.inr (11, []))))) : mq 63 0 [some (.ref 1), some (.ref 18), some (.ref 53), none, none, none] [] (hS n u I A J B mk sn L xs X) Q := by
  refine x_al1 (pc := 0) rfl rfl ?_
  refine g_18_7 (pc := 1) (v := nI N) rfl rfl hN ?_
  refine x_is1 (pc := 4) (ml' := [some (.ref 1), some (.ref 18), some (.ref 53), some (.int (nI N)), none, none]) rfl rfl ?_
  refine x_al1 (pc := 5) rfl rfl ?_
  refine g_53_0 (pc := 6) rfl rfl ?_
  refine x_il1 (pc := 9) rfl rfl ?_
  refine x_k (pc := 10) rfl rfl rfl ⟨Nat.le_of_ble_eq_true rfl, Nat.le_of_ble_eq_true rfl, Nat.le_of_ble_eq_true rfl⟩ rfl (k_64_2 (I := I) (A := A) (N := N) (l := l) hB hl4 (fun A1 g1 hB1 => ?_))
  show mq 63 13 [some (.ref 1), some (.ref 18), some (.ref 53), some (.int (nI N)), none, none] [] (hS n u I A1 J B mk sn L xs X) _
  refine x_al1 (pc := 13) rfl rfl ?_
  refine x_al1 (pc := 14) rfl rfl ?_
  refine x_al1 (pc := 15) rfl rfl ?_
  refine x_k (pc := 16) rfl rfl rfl ⟨Nat.le_of_ble_eq_true rfl, Nat.le_of_ble_eq_true rfl, Nat.le_of_ble_eq_true rfl⟩ rfl (k_65c_1_2 (I := I) (A := A1) (l := nmb N l) (kD_on hD ho (Fr_refl [] I) g1 (by decide) (by decide)) ho hcn hc hf (fun j hj => by rw [g1 34 (by decide)]; exact hsl j hj) hN hNb hB1 (by rw [nmb_len]; exact hl1) (by rw [nmb_len]; exact hl4) hnf hfr (fun I2 A2 f2 g2 => ?_))
  show mq 63 19 [some (.ref 1), some (.ref 18), some (.ref 53), some (.int (nI N)), none, none] [.int (-1)] (hS n u I2 A2 J B mk sn L xs X) _
  refine x_is2 (pc := 19) (ml' := [some (.ref 1), some (.ref 18), some (.ref 53), some (.int (nI N)), some (.int (-1)), none]) rfl rfl ?_
  refine x_il2 (pc := 21) rfl rfl ?_
  refine x_if_ge (pc := 23) (t := 37) rfl rfl rfl (fun c => absurd c (by decide)) (fun _ => ?_)
  refine x_thr (pc := 26) rfl rfl hn hu rfl ⟨Nat.le_of_ble_eq_true rfl, Nat.le_of_ble_eq_true rfl⟩ ?_
  exact kr _ _ (Fr_cons (Fr_refl _ _) f2 (by decide)) (Fr_cons (Fr_cons (Fr_refl _ _) g1 (by decide)) g2 (by decide))
set_option maxRecDepth 100000 in
set_option maxHeartbeats 4000000 in
theorem k_63_1_2 {cn N : Nat} {f : Nat → Nat} {l : List R5} {p q : Int32} {S : DS} (hD : kD mk S I A) (ho : dO S = false) (hmk : mks mk sn) (hn : 77 ≤ n ∧ n < 10000) (hu : u + 6 < 1000000) (hcn : cn ≤ 16) (hc : I 43 = nI cn) (hf : ∀ k, k < cn → f k < 16) (hsl : ∀ j, j < cn → A 34 j = nI (f j)) (hN : I 45 = nI N) (hNb : N + 4 < 2 ^ 31) (hB : BT 2 I A l p q) (hl1 : 1 ≤ l.length) (hl4 : l.length ≤ 4) (hroom : frS (dD S) 16 0 = -1 ∨ cn < 16) {Q : mO × mHp → Prop} (kk : ∀ S' f' cn', apS S 1 f cn N p q (nmb N l) = some (S', f', cn') → dO S' = false → ∀ I' A', Fr [2, 3, 14, 15, 43, 45] I I' → Fr [0, 3, 4, 34, 20] A A' → kD mk S' I' A' → I' 45 = nI (N + l.length) → BT 2 I' A' (nmb N l) p q → I' 43 = nI cn' → (∀ j, j < cn' → A' 34 j = nI (f' j)) → Q (.inl (some (.int (nI N))), hS n u I' A' J B mk sn L xs X)) (kx : ∀ S' f' cn', apS S 1 f cn N p q (nmb N l) = some (S', f', cn') → dO S' = true → ∀ I' A', Up 60 I I' → Up 50 A A' → kD mk S' I' A' → Q (.inr n, hS (n + 1) (u + 6) I' A' J B mk sn L xs (va_up X n (.inr (9, []))))) (kr : apS S 1 f cn N p q (nmb N l) = none → ∀ I' A', Fr [14] I I' → Fr [3, 20] A A' → Q (.inr n, hS (n + 1) (u + 6) I' A' J B mk sn L xs (va_up X n (.inr (11, []))))) : mq 63 0 [some (.ref 1), some (.ref 18), some (.ref 53), none, none, none] [] (hS n u I A J B mk sn L xs X) Q := by
  by_cases hfit : 0 < cn ∧ mB (dD S) (f (cn - 1)) + (eBt (nI (bB (dD S) (f (cn - 1)))) p q (nmb N l)).length ≤ 128
  · have e : apS S 1 f cn N p q (nmb N l) = some (_, f, cn) := if_pos hfit
    refine k_63a_1_2 hD ho hmk hn hu hcn hc hf hsl hN hNb hB hl1 hl4 hfit.1 hfit.2 (fun o1 I1 A1 f1 g1 h1 n1 b1 => ?_) (fun o1 I1 A1 f1 g1 h1 => kx _ _ _ e o1 I1 A1 f1 g1 h1)
    exact kk _ _ _ e o1 I1 A1 (Fr_cons (Fr_refl _ I) f1 (by decide)) (Fr_cons (Fr_refl _ A) g1 (by decide)) h1 n1 b1 ((f1 43 (by decide)).trans hc) (fun j hj => by rw [g1 34 (by decide)]; exact hsl j hj)
  · have hnf : cn = 0 ∨ 128 < mB (dD S) (f (cn - 1)) + (eBt (nI (bB (dD S) (f (cn - 1)))) p q (nmb N l)).length := by
      by_cases h0 : cn = 0
      · exact Or.inl h0
      · exact Or.inr (Nat.lt_of_not_le (fun q => hfit ⟨Nat.pos_of_ne_zero h0, q⟩))
    by_cases hfr : frS (dD S) 16 0 = -1
    · have e : apS S 1 f cn N p q (nmb N l) = none := (if_neg hfit).trans (if_pos hfr)
      exact k_63c_1_2 hD ho hmk hn hu hcn hc hf hsl hN hNb hB hl1 hl4 hnf hfr (fun I1 A1 f1 g1 => kr e I1 A1 f1 g1)
    · have e : apS S 1 f cn N p q (nmb N l) = some (_, _, cn + 1) := (if_neg hfit).trans (if_neg hfr)
      rcases frN_spec (dD S) 16 0 with h5 | h5
      · exact absurd h5.1 hfr
      · have hc16 : cn < 16 := by
          rcases hroom with h6 | h6
          · exact absurd h6 hfr
          · exact h6
        refine k_63b_1_2 hD ho hmk hn hu hcn hc hf hsl hN hNb hB hl1 hl4 hnf (by omega) h5.1 hc16 (fun o1 I1 A1 f1 g1 h1 n1 b1 c1 d1 => ?_) (fun o1 I1 A1 f1 g1 h1 => kx _ _ _ e o1 I1 A1 f1 g1 h1)
        refine kk _ _ _ e o1 I1 A1 f1 g1 h1 n1 b1 c1 (fun j hj => ?_)
        rw [d1]
        by_cases h7 : j = cn
        · rw [h7, pk_us, if_pos rfl]
        · rw [pk_un h7, if_neg h7]
          exact hsl j (by omega)
set_option maxRecDepth 100000 in
set_option maxHeartbeats 4000000 in
theorem k_63a_1_3 {cn N : Nat} {f : Nat → Nat} {l : List R5} {p q : Int32} {S : DS} (hD : kD mk S I A) (ho : dO S = false) (hmk : mks mk sn) (hn : 77 ≤ n ∧ n < 10000) (hu : u + 6 < 1000000) (hcn : cn ≤ 16) (hc : I 43 = nI cn) (hf : ∀ k, k < cn → f k < 16) (hsl : ∀ j, j < cn → A 34 j = nI (f j)) (hN : I 45 = nI N) (hNb : N + 4 < 2 ^ 31) (hB : BT 3 I A l p q) (hl1 : 1 ≤ l.length) (hl4 : l.length ≤ 4) (hp : 0 < cn) (hfit : mB (dD S) (f (cn - 1)) + (eBt (nI (bB (dD S) (f (cn - 1)))) p q (nmb N l)).length ≤ 128) {Q : mO × mHp → Prop} (kk : dO (wrs S (apW (f (cn - 1)) (mB (dD S) (f (cn - 1))) (eBt (nI (bB (dD S) (f (cn - 1)))) p q (nmb N l)))) = false → ∀ I' A', Fr [2, 3, 14, 15, 45] I I' → Fr [0, 3, 4, 25] A A' → kD mk (wrs S (apW (f (cn - 1)) (mB (dD S) (f (cn - 1))) (eBt (nI (bB (dD S) (f (cn - 1)))) p q (nmb N l)))) I' A' → I' 45 = nI (N + l.length) → BT 3 I' A' (nmb N l) p q → Q (.inl (some (.int (nI N))), hS n u I' A' J B mk sn L xs X)) (kx : dO (wrs S (apW (f (cn - 1)) (mB (dD S) (f (cn - 1))) (eBt (nI (bB (dD S) (f (cn - 1)))) p q (nmb N l)))) = true → ∀ I' A', Up 60 I I' → Up 50 A A' → kD mk (wrs S (apW (f (cn - 1)) (mB (dD S) (f (cn - 1))) (eBt (nI (bB (dD S) (f (cn - 1)))) p q (nmb N l)))) I' A' → Q (.inr n, hS (n + 1) (u + 6) I' A' J B mk sn L xs (va_up X n (.inr (9, []))))) : mq 63 0 [some (.ref 1), some (.ref 18), some (.ref 60), none, none, none] [] (hS n u I A J B mk sn L xs X) Q := by
  obtain ⟨t, ht⟩ : ∃ x, x = eBt (nI (bB (dD S) (f (cn - 1)))) p q (nmb N l) := ⟨_, rfl⟩
  rw [← ht] at hfit kk kx
  have htb : ∀ i, gB0 t i < 256 := by
    rw [ht]
    exact gB0_by (eBt_by _ _ _ _)
  refine x_al1 (pc := 0) rfl rfl ?_
  refine g_18_7 (pc := 1) (v := nI N) rfl rfl hN ?_
  refine x_is1 (pc := 4) (ml' := [some (.ref 1), some (.ref 18), some (.ref 60), some (.int (nI N)), none, none]) rfl rfl ?_
  refine x_al1 (pc := 5) rfl rfl ?_
  refine g_60_0 (pc := 6) rfl rfl ?_
  refine x_il1 (pc := 9) rfl rfl ?_
  refine x_k (pc := 10) rfl rfl rfl ⟨Nat.le_of_ble_eq_true rfl, Nat.le_of_ble_eq_true rfl, Nat.le_of_ble_eq_true rfl⟩ rfl (k_64_3 (I := I) (A := A) (N := N) (l := l) hB hl4 (fun A1 g1 hB1 => ?_))
  show mq 63 13 [some (.ref 1), some (.ref 18), some (.ref 60), some (.int (nI N)), none, none] [] (hS n u I A1 J B mk sn L xs X) _
  refine x_al1 (pc := 13) rfl rfl ?_
  refine x_al1 (pc := 14) rfl rfl ?_
  refine x_al1 (pc := 15) rfl rfl ?_
  refine x_k (pc := 16) rfl rfl rfl ⟨Nat.le_of_ble_eq_true rfl, Nat.le_of_ble_eq_true rfl, Nat.le_of_ble_eq_true rfl⟩ rfl (k_65a_1_3 (I := I) (A := A1) (l := nmb N l) (kD_on hD ho (Fr_refl [] I) g1 (by decide) (by decide)) ho hcn hc hf (fun j hj => by rw [g1 34 (by decide)]; exact hsl j hj) hN hNb hB1 (by rw [nmb_len]; exact hl1) (by rw [nmb_len]; exact hl4) hp (by rw [← ht]; exact hfit) (fun I2 A2 f2 g2 => ?_))
  show mq 63 19 [some (.ref 1), some (.ref 18), some (.ref 60), some (.int (nI N)), none, none] [.int (nI (f (cn - 1)))] (hS n u I2 A2 J B mk sn L xs X) _
  refine x_is2 (pc := 19) (ml' := [some (.ref 1), some (.ref 18), some (.ref 60), some (.int (nI N)), some (.int (nI (f (cn - 1)))), none]) rfl rfl ?_
  refine x_il2 (pc := 21) rfl rfl ?_
  refine x_ifN_ge (pc := 23) (t := 37) rfl rfl (by have := hf (cn - 1) (by omega); omega) ?_
  have kq := kD_on (kD_on hD ho (Fr_refl [] I) g1 (by decide) (by decide)) ho f2 g2 (by decide) (by decide)
  have oq := ho
  have bq := BT_fr2 hB1 f2 g2 (by decide) (by decide)
  have hmb := mB_lt hD.2.1.2.1 (f (cn - 1))
  have hfit8 : mB (dD S) (f (cn - 1)) + t.length ≤ 128 := hfit
  have ev : wrs S (apW (f (cn - 1)) (mB (dD S) (f (cn - 1))) (t)) = wr1 (wrs S (spW (f (cn - 1)) (mB (dD S) (f (cn - 1))) (mB (dD S) (f (cn - 1)) + (t).length) (t) 4 (mB (dD S) (f (cn - 1))))) (mkW (f (cn - 1)) (mB (dD S) (f (cn - 1)) + (t).length)) := by
    unfold apW
    rw [wrs_app]
    rfl
  refine x_al1 (pc := 37) rfl rfl ?_
  refine g_1_0 (pc := 38) rfl rfl ?_
  refine x_il2 (pc := 41) rfl rfl ?_
  refine x_k (pc := 43) rfl rfl rfl ⟨Nat.le_of_ble_eq_true rfl, Nat.le_of_ble_eq_true rfl, Nat.le_of_ble_eq_true rfl⟩ rfl (mq_k (c_37 (I := I2) (A := A2) (D := dD (S)) (kq).2.1 (hf _ (by omega))) ?_)
  show mq 63 46 [some (.ref 1), some (.ref 18), some (.ref 60), some (.int (nI N)), some (.int (nI (f (cn - 1)))), none] [.int (nI (mB (dD (S)) (f (cn - 1))))] (hS n u I2 A2 J B mk sn L xs X) _
  refine x_is2 (pc := 46) (ml' := [some (.ref 1), some (.ref 18), some (.ref 60), some (.int (nI N)), some (.int (nI (f (cn - 1)))), some (.int (nI (mB (dD (S)) (f (cn - 1)))))]) rfl rfl ?_
  refine x_al1 (pc := 48) rfl rfl ?_
  refine x_il2 (pc := 49) rfl rfl ?_
  refine x_al1 (pc := 51) rfl rfl ?_
  refine x_k (pc := 52) rfl rfl rfl ⟨Nat.le_of_ble_eq_true rfl, Nat.le_of_ble_eq_true rfl, Nat.le_of_ble_eq_true rfl⟩ rfl (k_66_3 (I := I2) (A := A2) (D := dD (S)) (l := nmb N l) (p := p) (q := q) (kq).2.1 (hf _ (by omega)) (by rw [nmb_len]; exact hl1) (by rw [nmb_len]; exact hl4) bq (fun I6 A6 f6 g6 h6 => ?_))
  show mq 63 55 [some (.ref 1), some (.ref 18), some (.ref 60), some (.int (nI N)), some (.int (nI (f (cn - 1)))), some (.int (nI (mB (dD (S)) (f (cn - 1)))))] [] (hS n u I6 A6 J B mk sn L xs X) _
  rw [← ht] at h6
  have F6 : Fr [2, 3, 14, 15, 45] I I6 := (Fr_cons (Fr_cons (Fr_refl _ _) f2 (by decide)) f6 (by decide))
  have G6 : Fr [0, 3, 4, 25] A A6 := (Fr_cons (Fr_cons (Fr_cons (Fr_refl _ _) g1 (by decide)) g2 (by decide)) g6 (by decide))
  refine x_al1 (pc := 55) rfl rfl ?_
  refine x_il2 (pc := 56) rfl rfl ?_
  refine x_il2 (pc := 58) rfl rfl ?_
  refine x_k (pc := 60) rfl rfl rfl ⟨Nat.le_of_ble_eq_true rfl, Nat.le_of_ble_eq_true rfl, Nat.le_of_ble_eq_true rfl⟩ rfl (k_73 (I := I6) (A := A6) (S := S) (s := f (cn - 1)) (m := mB (dD S) (f (cn - 1))) (t := t) (hf _ (by omega)) htb hfit8 h6 (kD_on kq oq f6 g6 (by decide) (by decide)) oq hmk hn hu (fun o7 I7 A7 f7 g7 h7 => ?_) (fun o7 I7 A7 f7 g7 h7 => mK_x rfl (kx (by rw [ev, wr1_off _ o7]; exact o7) I7 A7 (Up_tr (Up_fr F6 (by decide)) f7) (Up_tr (Up_fr G6 (by decide)) g7) (by rw [ev, wr1_off _ o7]; exact h7))))
  show mq 63 63 [some (.ref 1), some (.ref 18), some (.ref 60), some (.int (nI N)), some (.int (nI (f (cn - 1)))), some (.int (nI (mB (dD (S)) (f (cn - 1)))))] [] (hS n u I7 A7 J B mk sn L xs X) _
  refine x_al1 (pc := 63) rfl rfl ?_
  refine x_il2 (pc := 64) rfl rfl ?_
  refine x_il2 (pc := 66) rfl rfl ?_
  refine x_al1 (pc := 68) rfl rfl ?_
  refine g_1_7 (pc := 69) rfl rfl ?_
  refine g_49_1 (pc := 72) (v := nI ((t).length)) rfl rfl ((f7 14 (by decide)).trans h6.1) ?_
  refine x_iaddN (pc := 75) (c := (mB (dD (S)) (f (cn - 1))) + ((t).length)) rfl rfl ?_
  refine x_k (pc := 76) rfl rfl rfl ⟨Nat.le_of_ble_eq_true rfl, Nat.le_of_ble_eq_true rfl, Nat.le_of_ble_eq_true rfl⟩ rfl (k_74 (I := I7) (A := A7) (s := f (cn - 1)) (v := (mB (dD S) (f (cn - 1))) + (t).length) (S := wrs (S) (spW (f (cn - 1)) (mB (dD S) (f (cn - 1))) ((mB (dD S) (f (cn - 1))) + (t).length) (t) 4 (mB (dD S) (f (cn - 1))))) (hf _ (by omega)) (by omega) h7 o7 hmk hn hu (fun o8 I8 A8 f8 g8 h8 => ?_) (fun o8 I8 A8 f8 g8 h8 => mK_x rfl (kx (by rw [ev]; exact o8) I8 A8 (Up_tr (Up_fr F6 (by decide)) (Up_tr (Up_fr f7 (by decide)) f8)) (Up_tr (Up_fr G6 (by decide)) (Up_tr (Up_fr g7 (by decide)) g8)) (by rw [ev]; exact h8))))
  show mq 63 79 [some (.ref 1), some (.ref 18), some (.ref 60), some (.int (nI N)), some (.int (nI (f (cn - 1)))), some (.int (nI (mB (dD (S)) (f (cn - 1)))))] [] (hS n u I8 A8 J B mk sn L xs X) _
  refine x_al1 (pc := 79) rfl rfl ?_
  refine x_il1 (pc := 80) rfl rfl ?_
  refine x_al1 (pc := 81) rfl rfl ?_
  refine g_60_0 (pc := 82) rfl rfl ?_
  refine g_61_5 (pc := 85) (v := nI l.length) rfl rfl ((f8 31 (by decide)).trans ((f7 31 (by decide)).trans ((f6 31 (by decide)).trans ((f2 31 (by decide)).trans hB.2.2.1)))) ?_
  refine x_iaddN (pc := 88) (c := N + l.length) rfl rfl ?_
  refine p_18_7 (pc := 89) rfl rfl ?_
  refine x_il1 (pc := 92) rfl rfl ?_
  refine x_ret (pc := 93) rfl rfl ?_
  exact kk (by rw [ev]; exact o8) _ _ (Fr_u (Fr_cons (Fr_cons (Fr_cons (Fr_cons (Fr_refl _ _) f2 (by decide)) f6 (by decide)) f7 (by decide)) f8 (by decide)) (by decide)) (Fr_cons (Fr_cons (Fr_cons (Fr_cons (Fr_cons (Fr_refl _ _) g1 (by decide)) g2 (by decide)) g6 (by decide)) g7 (by decide)) g8 (by decide)) (kD_on (by rw [ev]; exact h8) (by rw [ev]; exact o8) (Fr_up I8 45 _) (Fr_refl [] A8) (by decide) (by decide)) rfl (BT_fr2 (BT_fr2 (BT_fr2 (BT_fr2 bq f6 g6 (by decide) (by decide)) f7 g7 (by decide) (by decide)) f8 g8 (by decide) (by decide)) (Fr_up I8 45 _) (Fr_refl [] A8) (by decide) (by decide))
set_option maxRecDepth 100000 in
set_option maxHeartbeats 4000000 in
theorem k_63b_1_3 {cn N : Nat} {f : Nat → Nat} {l : List R5} {p q : Int32} {S : DS} (hD : kD mk S I A) (ho : dO S = false) (hmk : mks mk sn) (hn : 77 ≤ n ∧ n < 10000) (hu : u + 6 < 1000000) (hcn : cn ≤ 16) (hc : I 43 = nI cn) (hf : ∀ k, k < cn → f k < 16) (hsl : ∀ j, j < cn → A 34 j = nI (f j)) (hN : I 45 = nI N) (hNb : N + 4 < 2 ^ 31) (hB : BT 3 I A l p q) (hl1 : 1 ≤ l.length) (hl4 : l.length ≤ 4) (hnf : cn = 0 ∨ 128 < mB (dD S) (f (cn - 1)) + (eBt (nI (bB (dD S) (f (cn - 1)))) p q (nmb N l)).length) {s : Nat} (hs : s < 16) (hfr : frS (dD S) 16 0 = nI s) (hc16 : cn < 16) {Q : mO × mHp → Prop} (kk : dO (wrs S (hdW s 1 N :: apW s 8 (eBt (nI N) p q (nmb N l)))) = false → ∀ I' A', Fr [2, 3, 14, 15, 43, 45] I I' → Fr [0, 3, 4, 34, 25] A A' → kD mk (wrs S (hdW s 1 N :: apW s 8 (eBt (nI N) p q (nmb N l)))) I' A' → I' 45 = nI (N + l.length) → BT 3 I' A' (nmb N l) p q → I' 43 = nI (cn + 1) → A' 34 = upd (A 34) cn (nI s) → Q (.inl (some (.int (nI N))), hS n u I' A' J B mk sn L xs X)) (kx : dO (wrs S (hdW s 1 N :: apW s 8 (eBt (nI N) p q (nmb N l)))) = true → ∀ I' A', Up 60 I I' → Up 50 A A' → kD mk (wrs S (hdW s 1 N :: apW s 8 (eBt (nI N) p q (nmb N l)))) I' A' → Q (.inr n, hS (n + 1) (u + 6) I' A' J B mk sn L xs (va_up X n (.inr (9, []))))) : mq 63 0 [some (.ref 1), some (.ref 18), some (.ref 60), none, none, none] [] (hS n u I A J B mk sn L xs X) Q := by
  have hel := eBt_len (nI N) p q (nmb N l)
  rw [nmb_len] at hel
  obtain ⟨t, ht⟩ : ∃ x, x = eBt (nI N) p q (nmb N l) := ⟨_, rfl⟩
  rw [← ht] at kk kx hel
  have htb : ∀ i, gB0 t i < 256 := by
    rw [ht]
    exact gB0_by (eBt_by _ _ _ _)
  have ev : wrs S (hdW s 1 N :: apW s 8 (t)) = wr1 (wrs (wr1 S (hdW s 1 N)) (spW s 8 (8 + (t).length) (t) 4 8)) (mkW s (8 + (t).length)) := by
    show wrs (wr1 S (hdW s 1 N)) (apW s 8 t) = _
    unfold apW
    rw [wrs_app]
    rfl
  refine x_al1 (pc := 0) rfl rfl ?_
  refine g_18_7 (pc := 1) (v := nI N) rfl rfl hN ?_
  refine x_is1 (pc := 4) (ml' := [some (.ref 1), some (.ref 18), some (.ref 60), some (.int (nI N)), none, none]) rfl rfl ?_
  refine x_al1 (pc := 5) rfl rfl ?_
  refine g_60_0 (pc := 6) rfl rfl ?_
  refine x_il1 (pc := 9) rfl rfl ?_
  refine x_k (pc := 10) rfl rfl rfl ⟨Nat.le_of_ble_eq_true rfl, Nat.le_of_ble_eq_true rfl, Nat.le_of_ble_eq_true rfl⟩ rfl (k_64_3 (I := I) (A := A) (N := N) (l := l) hB hl4 (fun A1 g1 hB1 => ?_))
  show mq 63 13 [some (.ref 1), some (.ref 18), some (.ref 60), some (.int (nI N)), none, none] [] (hS n u I A1 J B mk sn L xs X) _
  refine x_al1 (pc := 13) rfl rfl ?_
  refine x_al1 (pc := 14) rfl rfl ?_
  refine x_al1 (pc := 15) rfl rfl ?_
  refine x_k (pc := 16) rfl rfl rfl ⟨Nat.le_of_ble_eq_true rfl, Nat.le_of_ble_eq_true rfl, Nat.le_of_ble_eq_true rfl⟩ rfl (k_65b_1_3 (I := I) (A := A1) (l := nmb N l) (kD_on hD ho (Fr_refl [] I) g1 (by decide) (by decide)) ho hcn hc hf (fun j hj => by rw [g1 34 (by decide)]; exact hsl j hj) hN hNb hB1 (by rw [nmb_len]; exact hl1) (by rw [nmb_len]; exact hl4) hnf hs hfr hc16 hmk hn hu (fun o2 I2 A2 f2 g2 h2 c2 d2 => ?_) (fun o2 I2 A2 f2 g2 h2 => mK_x rfl (kx (by rw [ev, wr1_off _ (by rw [wrs_off _ o2]; exact o2), wrs_off _ o2]; exact o2) I2 A2 f2 (Up_tr (Up_fr g1 (by decide)) g2) (by rw [ev, wr1_off _ (by rw [wrs_off _ o2]; exact o2), wrs_off _ o2]; exact h2))))
  show mq 63 19 [some (.ref 1), some (.ref 18), some (.ref 60), some (.int (nI N)), none, none] [.int (nI s)] (hS n u I2 A2 J B mk sn L xs X) _
  refine x_is2 (pc := 19) (ml' := [some (.ref 1), some (.ref 18), some (.ref 60), some (.int (nI N)), some (.int (nI s)), none]) rfl rfl ?_
  refine x_il2 (pc := 21) rfl rfl ?_
  refine x_ifN_ge (pc := 23) (t := 37) rfl rfl (by omega) ?_
  have kq := h2
  have oq := o2
  have bq := BT_fr2 hB1 f2 g2 (by decide) (by decide)
  have hb8 := hd_D o2 (by omega)
  have hfit8 : 8 + t.length ≤ 128 := by omega
  refine x_al1 (pc := 37) rfl rfl ?_
  refine g_1_0 (pc := 38) rfl rfl ?_
  refine x_il2 (pc := 41) rfl rfl ?_
  refine x_k (pc := 43) rfl rfl rfl ⟨Nat.le_of_ble_eq_true rfl, Nat.le_of_ble_eq_true rfl, Nat.le_of_ble_eq_true rfl⟩ rfl (mq_k (c_37 (I := I2) (A := A2) (D := dD (wr1 S (hdW s 1 N))) (kq).2.1 hs) ?_)
  show mq 63 46 [some (.ref 1), some (.ref 18), some (.ref 60), some (.int (nI N)), some (.int (nI s)), none] [.int (nI (mB (dD (wr1 S (hdW s 1 N))) s))] (hS n u I2 A2 J B mk sn L xs X) _
  refine x_top (y := nI 8) (congrArg nI hb8.1) ?_
  refine x_is2 (pc := 46) (ml' := [some (.ref 1), some (.ref 18), some (.ref 60), some (.int (nI N)), some (.int (nI s)), some (.int (nI 8))]) rfl rfl ?_
  refine x_al1 (pc := 48) rfl rfl ?_
  refine x_il2 (pc := 49) rfl rfl ?_
  refine x_al1 (pc := 51) rfl rfl ?_
  refine x_k (pc := 52) rfl rfl rfl ⟨Nat.le_of_ble_eq_true rfl, Nat.le_of_ble_eq_true rfl, Nat.le_of_ble_eq_true rfl⟩ rfl (k_66_3 (I := I2) (A := A2) (D := dD (wr1 S (hdW s 1 N))) (l := nmb N l) (p := p) (q := q) (kq).2.1 hs (by rw [nmb_len]; exact hl1) (by rw [nmb_len]; exact hl4) bq (fun I6 A6 f6 g6 h6 => ?_))
  show mq 63 55 [some (.ref 1), some (.ref 18), some (.ref 60), some (.int (nI N)), some (.int (nI s)), some (.int (nI 8))] [] (hS n u I6 A6 J B mk sn L xs X) _
  rw [hb8.2, ← ht] at h6
  have F6 : Fr [2, 3, 14, 15, 43, 45] I I6 := (Fr_cons (Fr_cons (Fr_refl _ _) f2 (by decide)) f6 (by decide))
  have G6 : Fr [0, 3, 4, 34, 25] A A6 := (Fr_cons (Fr_cons (Fr_cons (Fr_refl _ _) g1 (by decide)) g2 (by decide)) g6 (by decide))
  refine x_al1 (pc := 55) rfl rfl ?_
  refine x_il2 (pc := 56) rfl rfl ?_
  refine x_il2 (pc := 58) rfl rfl ?_
  refine x_k (pc := 60) rfl rfl rfl ⟨Nat.le_of_ble_eq_true rfl, Nat.le_of_ble_eq_true rfl, Nat.le_of_ble_eq_true rfl⟩ rfl (k_73 (I := I6) (A := A6) (S := wr1 S (hdW s 1 N)) (s := s) (m := 8) (t := t) hs htb hfit8 h6 (kD_on kq oq f6 g6 (by decide) (by decide)) oq hmk hn hu (fun o7 I7 A7 f7 g7 h7 => ?_) (fun o7 I7 A7 f7 g7 h7 => mK_x rfl (kx (by rw [ev, wr1_off _ o7]; exact o7) I7 A7 (Up_tr (Up_fr F6 (by decide)) f7) (Up_tr (Up_fr G6 (by decide)) g7) (by rw [ev, wr1_off _ o7]; exact h7))))
  show mq 63 63 [some (.ref 1), some (.ref 18), some (.ref 60), some (.int (nI N)), some (.int (nI s)), some (.int (nI 8))] [] (hS n u I7 A7 J B mk sn L xs X) _
  refine x_al1 (pc := 63) rfl rfl ?_
  refine x_il2 (pc := 64) rfl rfl ?_
  refine x_il2 (pc := 66) rfl rfl ?_
  refine x_al1 (pc := 68) rfl rfl ?_
  refine g_1_7 (pc := 69) rfl rfl ?_
  refine g_49_1 (pc := 72) (v := nI ((t).length)) rfl rfl ((f7 14 (by decide)).trans h6.1) ?_
  refine x_iaddN (pc := 75) (c := 8 + ((t).length)) rfl rfl ?_
  refine x_k (pc := 76) rfl rfl rfl ⟨Nat.le_of_ble_eq_true rfl, Nat.le_of_ble_eq_true rfl, Nat.le_of_ble_eq_true rfl⟩ rfl (k_74 (I := I7) (A := A7) (s := s) (v := 8 + (t).length) (S := wrs (wr1 S (hdW s 1 N)) (spW s 8 (8 + (t).length) (t) 4 8)) hs (by omega) h7 o7 hmk hn hu (fun o8 I8 A8 f8 g8 h8 => ?_) (fun o8 I8 A8 f8 g8 h8 => mK_x rfl (kx (by rw [ev]; exact o8) I8 A8 (Up_tr (Up_fr F6 (by decide)) (Up_tr (Up_fr f7 (by decide)) f8)) (Up_tr (Up_fr G6 (by decide)) (Up_tr (Up_fr g7 (by decide)) g8)) (by rw [ev]; exact h8))))
  show mq 63 79 [some (.ref 1), some (.ref 18), some (.ref 60), some (.int (nI N)), some (.int (nI s)), some (.int (nI 8))] [] (hS n u I8 A8 J B mk sn L xs X) _
  refine x_al1 (pc := 79) rfl rfl ?_
  refine x_il1 (pc := 80) rfl rfl ?_
  refine x_al1 (pc := 81) rfl rfl ?_
  refine g_60_0 (pc := 82) rfl rfl ?_
  refine g_61_5 (pc := 85) (v := nI l.length) rfl rfl ((f8 31 (by decide)).trans ((f7 31 (by decide)).trans ((f6 31 (by decide)).trans ((f2 31 (by decide)).trans hB.2.2.1)))) ?_
  refine x_iaddN (pc := 88) (c := N + l.length) rfl rfl ?_
  refine p_18_7 (pc := 89) rfl rfl ?_
  refine x_il1 (pc := 92) rfl rfl ?_
  refine x_ret (pc := 93) rfl rfl ?_
  exact kk (by rw [ev]; exact o8) _ _ (Fr_u (Fr_cons (Fr_cons (Fr_cons (Fr_cons (Fr_refl _ _) f2 (by decide)) f6 (by decide)) f7 (by decide)) f8 (by decide)) (by decide)) (Fr_cons (Fr_cons (Fr_cons (Fr_cons (Fr_cons (Fr_refl _ _) g1 (by decide)) g2 (by decide)) g6 (by decide)) g7 (by decide)) g8 (by decide)) (kD_on (by rw [ev]; exact h8) (by rw [ev]; exact o8) (Fr_up I8 45 _) (Fr_refl [] A8) (by decide) (by decide)) rfl (BT_fr2 (BT_fr2 (BT_fr2 (BT_fr2 bq f6 g6 (by decide) (by decide)) f7 g7 (by decide) (by decide)) f8 g8 (by decide) (by decide)) (Fr_up I8 45 _) (Fr_refl [] A8) (by decide) (by decide)) ((f8 43 (by decide)).trans ((f7 43 (by decide)).trans ((f6 43 (by decide)).trans c2))) (by rw [g8 34 (by decide), g7 34 (by decide), g6 34 (by decide), d2, g1 34 (by decide)])
set_option maxRecDepth 100000 in
set_option maxHeartbeats 4000000 in
theorem k_63c_1_3 {cn N : Nat} {f : Nat → Nat} {l : List R5} {p q : Int32} {S : DS} (hD : kD mk S I A) (ho : dO S = false) (hmk : mks mk sn) (hn : 77 ≤ n ∧ n < 10000) (hu : u + 6 < 1000000) (hcn : cn ≤ 16) (hc : I 43 = nI cn) (hf : ∀ k, k < cn → f k < 16) (hsl : ∀ j, j < cn → A 34 j = nI (f j)) (hN : I 45 = nI N) (hNb : N + 4 < 2 ^ 31) (hB : BT 3 I A l p q) (hl1 : 1 ≤ l.length) (hl4 : l.length ≤ 4) (hnf : cn = 0 ∨ 128 < mB (dD S) (f (cn - 1)) + (eBt (nI (bB (dD S) (f (cn - 1)))) p q (nmb N l)).length) (hfr : frS (dD S) 16 0 = -1) {Q : mO × mHp → Prop} (kr : ∀ I' A', Fr [14] I I' → Fr [3, 25] A A' → Q (.inr n, hS (n + 1) (u + 6) I' A' J B mk sn L xs (va_up X n (.inr (11, []))))) : mq 63 0 [some (.ref 1), some (.ref 18), some (.ref 60), none, none, none] [] (hS n u I A J B mk sn L xs X) Q := by
  refine x_al1 (pc := 0) rfl rfl ?_
  refine g_18_7 (pc := 1) (v := nI N) rfl rfl hN ?_
  refine x_is1 (pc := 4) (ml' := [some (.ref 1), some (.ref 18), some (.ref 60), some (.int (nI N)), none, none]) rfl rfl ?_
  refine x_al1 (pc := 5) rfl rfl ?_
  refine g_60_0 (pc := 6) rfl rfl ?_
  refine x_il1 (pc := 9) rfl rfl ?_
  refine x_k (pc := 10) rfl rfl rfl ⟨Nat.le_of_ble_eq_true rfl, Nat.le_of_ble_eq_true rfl, Nat.le_of_ble_eq_true rfl⟩ rfl (k_64_3 (I := I) (A := A) (N := N) (l := l) hB hl4 (fun A1 g1 hB1 => ?_))
  show mq 63 13 [some (.ref 1), some (.ref 18), some (.ref 60), some (.int (nI N)), none, none] [] (hS n u I A1 J B mk sn L xs X) _
  refine x_al1 (pc := 13) rfl rfl ?_
  refine x_al1 (pc := 14) rfl rfl ?_
  refine x_al1 (pc := 15) rfl rfl ?_
  refine x_k (pc := 16) rfl rfl rfl ⟨Nat.le_of_ble_eq_true rfl, Nat.le_of_ble_eq_true rfl, Nat.le_of_ble_eq_true rfl⟩ rfl (k_65c_1_3 (I := I) (A := A1) (l := nmb N l) (kD_on hD ho (Fr_refl [] I) g1 (by decide) (by decide)) ho hcn hc hf (fun j hj => by rw [g1 34 (by decide)]; exact hsl j hj) hN hNb hB1 (by rw [nmb_len]; exact hl1) (by rw [nmb_len]; exact hl4) hnf hfr (fun I2 A2 f2 g2 => ?_))
  show mq 63 19 [some (.ref 1), some (.ref 18), some (.ref 60), some (.int (nI N)), none, none] [.int (-1)] (hS n u I2 A2 J B mk sn L xs X) _
  refine x_is2 (pc := 19) (ml' := [some (.ref 1), some (.ref 18), some (.ref 60), some (.int (nI N)), some (.int (-1)), none]) rfl rfl ?_
  refine x_il2 (pc := 21) rfl rfl ?_
  refine x_if_ge (pc := 23) (t := 37) rfl rfl rfl (fun c => absurd c (by decide)) (fun _ => ?_)
  refine x_thr (pc := 26) rfl rfl hn hu rfl ⟨Nat.le_of_ble_eq_true rfl, Nat.le_of_ble_eq_true rfl⟩ ?_
  exact kr _ _ (Fr_cons (Fr_refl _ _) f2 (by decide)) (Fr_cons (Fr_cons (Fr_refl _ _) g1 (by decide)) g2 (by decide))
set_option maxRecDepth 100000 in
set_option maxHeartbeats 4000000 in
theorem k_63_1_3 {cn N : Nat} {f : Nat → Nat} {l : List R5} {p q : Int32} {S : DS} (hD : kD mk S I A) (ho : dO S = false) (hmk : mks mk sn) (hn : 77 ≤ n ∧ n < 10000) (hu : u + 6 < 1000000) (hcn : cn ≤ 16) (hc : I 43 = nI cn) (hf : ∀ k, k < cn → f k < 16) (hsl : ∀ j, j < cn → A 34 j = nI (f j)) (hN : I 45 = nI N) (hNb : N + 4 < 2 ^ 31) (hB : BT 3 I A l p q) (hl1 : 1 ≤ l.length) (hl4 : l.length ≤ 4) (hroom : frS (dD S) 16 0 = -1 ∨ cn < 16) {Q : mO × mHp → Prop} (kk : ∀ S' f' cn', apS S 1 f cn N p q (nmb N l) = some (S', f', cn') → dO S' = false → ∀ I' A', Fr [2, 3, 14, 15, 43, 45] I I' → Fr [0, 3, 4, 34, 25] A A' → kD mk S' I' A' → I' 45 = nI (N + l.length) → BT 3 I' A' (nmb N l) p q → I' 43 = nI cn' → (∀ j, j < cn' → A' 34 j = nI (f' j)) → Q (.inl (some (.int (nI N))), hS n u I' A' J B mk sn L xs X)) (kx : ∀ S' f' cn', apS S 1 f cn N p q (nmb N l) = some (S', f', cn') → dO S' = true → ∀ I' A', Up 60 I I' → Up 50 A A' → kD mk S' I' A' → Q (.inr n, hS (n + 1) (u + 6) I' A' J B mk sn L xs (va_up X n (.inr (9, []))))) (kr : apS S 1 f cn N p q (nmb N l) = none → ∀ I' A', Fr [14] I I' → Fr [3, 25] A A' → Q (.inr n, hS (n + 1) (u + 6) I' A' J B mk sn L xs (va_up X n (.inr (11, []))))) : mq 63 0 [some (.ref 1), some (.ref 18), some (.ref 60), none, none, none] [] (hS n u I A J B mk sn L xs X) Q := by
  by_cases hfit : 0 < cn ∧ mB (dD S) (f (cn - 1)) + (eBt (nI (bB (dD S) (f (cn - 1)))) p q (nmb N l)).length ≤ 128
  · have e : apS S 1 f cn N p q (nmb N l) = some (_, f, cn) := if_pos hfit
    refine k_63a_1_3 hD ho hmk hn hu hcn hc hf hsl hN hNb hB hl1 hl4 hfit.1 hfit.2 (fun o1 I1 A1 f1 g1 h1 n1 b1 => ?_) (fun o1 I1 A1 f1 g1 h1 => kx _ _ _ e o1 I1 A1 f1 g1 h1)
    exact kk _ _ _ e o1 I1 A1 (Fr_cons (Fr_refl _ I) f1 (by decide)) (Fr_cons (Fr_refl _ A) g1 (by decide)) h1 n1 b1 ((f1 43 (by decide)).trans hc) (fun j hj => by rw [g1 34 (by decide)]; exact hsl j hj)
  · have hnf : cn = 0 ∨ 128 < mB (dD S) (f (cn - 1)) + (eBt (nI (bB (dD S) (f (cn - 1)))) p q (nmb N l)).length := by
      by_cases h0 : cn = 0
      · exact Or.inl h0
      · exact Or.inr (Nat.lt_of_not_le (fun q => hfit ⟨Nat.pos_of_ne_zero h0, q⟩))
    by_cases hfr : frS (dD S) 16 0 = -1
    · have e : apS S 1 f cn N p q (nmb N l) = none := (if_neg hfit).trans (if_pos hfr)
      exact k_63c_1_3 hD ho hmk hn hu hcn hc hf hsl hN hNb hB hl1 hl4 hnf hfr (fun I1 A1 f1 g1 => kr e I1 A1 f1 g1)
    · have e : apS S 1 f cn N p q (nmb N l) = some (_, _, cn + 1) := (if_neg hfit).trans (if_neg hfr)
      rcases frN_spec (dD S) 16 0 with h5 | h5
      · exact absurd h5.1 hfr
      · have hc16 : cn < 16 := by
          rcases hroom with h6 | h6
          · exact absurd h6 hfr
          · exact h6
        refine k_63b_1_3 hD ho hmk hn hu hcn hc hf hsl hN hNb hB hl1 hl4 hnf (by omega) h5.1 hc16 (fun o1 I1 A1 f1 g1 h1 n1 b1 c1 d1 => ?_) (fun o1 I1 A1 f1 g1 h1 => kx _ _ _ e o1 I1 A1 f1 g1 h1)
        refine kk _ _ _ e o1 I1 A1 f1 g1 h1 n1 b1 c1 (fun j hj => ?_)
        rw [d1]
        by_cases h7 : j = cn
        · rw [h7, pk_us, if_pos rfl]
        · rw [pk_un h7, if_neg h7]
          exact hsl j (by omega)
set_option maxRecDepth 100000 in
set_option maxHeartbeats 4000000 in
theorem k_63a_2_2 {cn N : Nat} {f : Nat → Nat} {l : List R5} {p q : Int32} {S : DS} (hD : kD mk S I A) (ho : dO S = false) (hmk : mks mk sn) (hn : 77 ≤ n ∧ n < 10000) (hu : u + 6 < 1000000) (hcn : cn ≤ 16) (hc : I 46 = nI cn) (hf : ∀ k, k < cn → f k < 16) (hsl : ∀ j, j < cn → A 38 j = nI (f j)) (hN : I 48 = nI N) (hNb : N + 4 < 2 ^ 31) (hB : BT 2 I A l p q) (hl1 : 1 ≤ l.length) (hl4 : l.length ≤ 4) (hp : 0 < cn) (hfit : mB (dD S) (f (cn - 1)) + (eBt (nI (bB (dD S) (f (cn - 1)))) p q (nmb N l)).length ≤ 128) {Q : mO × mHp → Prop} (kk : dO (wrs S (apW (f (cn - 1)) (mB (dD S) (f (cn - 1))) (eBt (nI (bB (dD S) (f (cn - 1)))) p q (nmb N l)))) = false → ∀ I' A', Fr [2, 3, 14, 15, 48] I I' → Fr [0, 3, 4, 20] A A' → kD mk (wrs S (apW (f (cn - 1)) (mB (dD S) (f (cn - 1))) (eBt (nI (bB (dD S) (f (cn - 1)))) p q (nmb N l)))) I' A' → I' 48 = nI (N + l.length) → BT 2 I' A' (nmb N l) p q → Q (.inl (some (.int (nI N))), hS n u I' A' J B mk sn L xs X)) (kx : dO (wrs S (apW (f (cn - 1)) (mB (dD S) (f (cn - 1))) (eBt (nI (bB (dD S) (f (cn - 1)))) p q (nmb N l)))) = true → ∀ I' A', Up 60 I I' → Up 50 A A' → kD mk (wrs S (apW (f (cn - 1)) (mB (dD S) (f (cn - 1))) (eBt (nI (bB (dD S) (f (cn - 1)))) p q (nmb N l)))) I' A' → Q (.inr n, hS (n + 1) (u + 6) I' A' J B mk sn L xs (va_up X n (.inr (9, []))))) : mq 63 0 [some (.ref 1), some (.ref 23), some (.ref 53), none, none, none] [] (hS n u I A J B mk sn L xs X) Q := by
  obtain ⟨t, ht⟩ : ∃ x, x = eBt (nI (bB (dD S) (f (cn - 1)))) p q (nmb N l) := ⟨_, rfl⟩
  rw [← ht] at hfit kk kx
  have htb : ∀ i, gB0 t i < 256 := by
    rw [ht]
    exact gB0_by (eBt_by _ _ _ _)
  refine x_al1 (pc := 0) rfl rfl ?_
  refine g_23_7 (pc := 1) (v := nI N) rfl rfl hN ?_
  refine x_is1 (pc := 4) (ml' := [some (.ref 1), some (.ref 23), some (.ref 53), some (.int (nI N)), none, none]) rfl rfl ?_
  refine x_al1 (pc := 5) rfl rfl ?_
  refine g_53_0 (pc := 6) rfl rfl ?_
  refine x_il1 (pc := 9) rfl rfl ?_
  refine x_k (pc := 10) rfl rfl rfl ⟨Nat.le_of_ble_eq_true rfl, Nat.le_of_ble_eq_true rfl, Nat.le_of_ble_eq_true rfl⟩ rfl (k_64_2 (I := I) (A := A) (N := N) (l := l) hB hl4 (fun A1 g1 hB1 => ?_))
  show mq 63 13 [some (.ref 1), some (.ref 23), some (.ref 53), some (.int (nI N)), none, none] [] (hS n u I A1 J B mk sn L xs X) _
  refine x_al1 (pc := 13) rfl rfl ?_
  refine x_al1 (pc := 14) rfl rfl ?_
  refine x_al1 (pc := 15) rfl rfl ?_
  refine x_k (pc := 16) rfl rfl rfl ⟨Nat.le_of_ble_eq_true rfl, Nat.le_of_ble_eq_true rfl, Nat.le_of_ble_eq_true rfl⟩ rfl (k_65a_2_2 (I := I) (A := A1) (l := nmb N l) (kD_on hD ho (Fr_refl [] I) g1 (by decide) (by decide)) ho hcn hc hf (fun j hj => by rw [g1 38 (by decide)]; exact hsl j hj) hN hNb hB1 (by rw [nmb_len]; exact hl1) (by rw [nmb_len]; exact hl4) hp (by rw [← ht]; exact hfit) (fun I2 A2 f2 g2 => ?_))
  show mq 63 19 [some (.ref 1), some (.ref 23), some (.ref 53), some (.int (nI N)), none, none] [.int (nI (f (cn - 1)))] (hS n u I2 A2 J B mk sn L xs X) _
  refine x_is2 (pc := 19) (ml' := [some (.ref 1), some (.ref 23), some (.ref 53), some (.int (nI N)), some (.int (nI (f (cn - 1)))), none]) rfl rfl ?_
  refine x_il2 (pc := 21) rfl rfl ?_
  refine x_ifN_ge (pc := 23) (t := 37) rfl rfl (by have := hf (cn - 1) (by omega); omega) ?_
  have kq := kD_on (kD_on hD ho (Fr_refl [] I) g1 (by decide) (by decide)) ho f2 g2 (by decide) (by decide)
  have oq := ho
  have bq := BT_fr2 hB1 f2 g2 (by decide) (by decide)
  have hmb := mB_lt hD.2.1.2.1 (f (cn - 1))
  have hfit8 : mB (dD S) (f (cn - 1)) + t.length ≤ 128 := hfit
  have ev : wrs S (apW (f (cn - 1)) (mB (dD S) (f (cn - 1))) (t)) = wr1 (wrs S (spW (f (cn - 1)) (mB (dD S) (f (cn - 1))) (mB (dD S) (f (cn - 1)) + (t).length) (t) 4 (mB (dD S) (f (cn - 1))))) (mkW (f (cn - 1)) (mB (dD S) (f (cn - 1)) + (t).length)) := by
    unfold apW
    rw [wrs_app]
    rfl
  refine x_al1 (pc := 37) rfl rfl ?_
  refine g_1_0 (pc := 38) rfl rfl ?_
  refine x_il2 (pc := 41) rfl rfl ?_
  refine x_k (pc := 43) rfl rfl rfl ⟨Nat.le_of_ble_eq_true rfl, Nat.le_of_ble_eq_true rfl, Nat.le_of_ble_eq_true rfl⟩ rfl (mq_k (c_37 (I := I2) (A := A2) (D := dD (S)) (kq).2.1 (hf _ (by omega))) ?_)
  show mq 63 46 [some (.ref 1), some (.ref 23), some (.ref 53), some (.int (nI N)), some (.int (nI (f (cn - 1)))), none] [.int (nI (mB (dD (S)) (f (cn - 1))))] (hS n u I2 A2 J B mk sn L xs X) _
  refine x_is2 (pc := 46) (ml' := [some (.ref 1), some (.ref 23), some (.ref 53), some (.int (nI N)), some (.int (nI (f (cn - 1)))), some (.int (nI (mB (dD (S)) (f (cn - 1)))))]) rfl rfl ?_
  refine x_al1 (pc := 48) rfl rfl ?_
  refine x_il2 (pc := 49) rfl rfl ?_
  refine x_al1 (pc := 51) rfl rfl ?_
  refine x_k (pc := 52) rfl rfl rfl ⟨Nat.le_of_ble_eq_true rfl, Nat.le_of_ble_eq_true rfl, Nat.le_of_ble_eq_true rfl⟩ rfl (k_66_2 (I := I2) (A := A2) (D := dD (S)) (l := nmb N l) (p := p) (q := q) (kq).2.1 (hf _ (by omega)) (by rw [nmb_len]; exact hl1) (by rw [nmb_len]; exact hl4) bq (fun I6 A6 f6 g6 h6 => ?_))
  show mq 63 55 [some (.ref 1), some (.ref 23), some (.ref 53), some (.int (nI N)), some (.int (nI (f (cn - 1)))), some (.int (nI (mB (dD (S)) (f (cn - 1)))))] [] (hS n u I6 A6 J B mk sn L xs X) _
  rw [← ht] at h6
  have F6 : Fr [2, 3, 14, 15, 48] I I6 := (Fr_cons (Fr_cons (Fr_refl _ _) f2 (by decide)) f6 (by decide))
  have G6 : Fr [0, 3, 4, 20] A A6 := (Fr_cons (Fr_cons (Fr_cons (Fr_refl _ _) g1 (by decide)) g2 (by decide)) g6 (by decide))
  refine x_al1 (pc := 55) rfl rfl ?_
  refine x_il2 (pc := 56) rfl rfl ?_
  refine x_il2 (pc := 58) rfl rfl ?_
  refine x_k (pc := 60) rfl rfl rfl ⟨Nat.le_of_ble_eq_true rfl, Nat.le_of_ble_eq_true rfl, Nat.le_of_ble_eq_true rfl⟩ rfl (k_73 (I := I6) (A := A6) (S := S) (s := f (cn - 1)) (m := mB (dD S) (f (cn - 1))) (t := t) (hf _ (by omega)) htb hfit8 h6 (kD_on kq oq f6 g6 (by decide) (by decide)) oq hmk hn hu (fun o7 I7 A7 f7 g7 h7 => ?_) (fun o7 I7 A7 f7 g7 h7 => mK_x rfl (kx (by rw [ev, wr1_off _ o7]; exact o7) I7 A7 (Up_tr (Up_fr F6 (by decide)) f7) (Up_tr (Up_fr G6 (by decide)) g7) (by rw [ev, wr1_off _ o7]; exact h7))))
  show mq 63 63 [some (.ref 1), some (.ref 23), some (.ref 53), some (.int (nI N)), some (.int (nI (f (cn - 1)))), some (.int (nI (mB (dD (S)) (f (cn - 1)))))] [] (hS n u I7 A7 J B mk sn L xs X) _
  refine x_al1 (pc := 63) rfl rfl ?_
  refine x_il2 (pc := 64) rfl rfl ?_
  refine x_il2 (pc := 66) rfl rfl ?_
  refine x_al1 (pc := 68) rfl rfl ?_
  refine g_1_7 (pc := 69) rfl rfl ?_
  refine g_49_1 (pc := 72) (v := nI ((t).length)) rfl rfl ((f7 14 (by decide)).trans h6.1) ?_
  refine x_iaddN (pc := 75) (c := (mB (dD (S)) (f (cn - 1))) + ((t).length)) rfl rfl ?_
  refine x_k (pc := 76) rfl rfl rfl ⟨Nat.le_of_ble_eq_true rfl, Nat.le_of_ble_eq_true rfl, Nat.le_of_ble_eq_true rfl⟩ rfl (k_74 (I := I7) (A := A7) (s := f (cn - 1)) (v := (mB (dD S) (f (cn - 1))) + (t).length) (S := wrs (S) (spW (f (cn - 1)) (mB (dD S) (f (cn - 1))) ((mB (dD S) (f (cn - 1))) + (t).length) (t) 4 (mB (dD S) (f (cn - 1))))) (hf _ (by omega)) (by omega) h7 o7 hmk hn hu (fun o8 I8 A8 f8 g8 h8 => ?_) (fun o8 I8 A8 f8 g8 h8 => mK_x rfl (kx (by rw [ev]; exact o8) I8 A8 (Up_tr (Up_fr F6 (by decide)) (Up_tr (Up_fr f7 (by decide)) f8)) (Up_tr (Up_fr G6 (by decide)) (Up_tr (Up_fr g7 (by decide)) g8)) (by rw [ev]; exact h8))))
  show mq 63 79 [some (.ref 1), some (.ref 23), some (.ref 53), some (.int (nI N)), some (.int (nI (f (cn - 1)))), some (.int (nI (mB (dD (S)) (f (cn - 1)))))] [] (hS n u I8 A8 J B mk sn L xs X) _
  refine x_al1 (pc := 79) rfl rfl ?_
  refine x_il1 (pc := 80) rfl rfl ?_
  refine x_al1 (pc := 81) rfl rfl ?_
  refine g_53_0 (pc := 82) rfl rfl ?_
  refine g_54_5 (pc := 85) (v := nI l.length) rfl rfl ((f8 28 (by decide)).trans ((f7 28 (by decide)).trans ((f6 28 (by decide)).trans ((f2 28 (by decide)).trans hB.2.2.1)))) ?_
  refine x_iaddN (pc := 88) (c := N + l.length) rfl rfl ?_
  refine p_23_7 (pc := 89) rfl rfl ?_
  refine x_il1 (pc := 92) rfl rfl ?_
  refine x_ret (pc := 93) rfl rfl ?_
  exact kk (by rw [ev]; exact o8) _ _ (Fr_u (Fr_cons (Fr_cons (Fr_cons (Fr_cons (Fr_refl _ _) f2 (by decide)) f6 (by decide)) f7 (by decide)) f8 (by decide)) (by decide)) (Fr_cons (Fr_cons (Fr_cons (Fr_cons (Fr_cons (Fr_refl _ _) g1 (by decide)) g2 (by decide)) g6 (by decide)) g7 (by decide)) g8 (by decide)) (kD_on (by rw [ev]; exact h8) (by rw [ev]; exact o8) (Fr_up I8 48 _) (Fr_refl [] A8) (by decide) (by decide)) rfl (BT_fr2 (BT_fr2 (BT_fr2 (BT_fr2 bq f6 g6 (by decide) (by decide)) f7 g7 (by decide) (by decide)) f8 g8 (by decide) (by decide)) (Fr_up I8 48 _) (Fr_refl [] A8) (by decide) (by decide))
set_option maxRecDepth 100000 in
set_option maxHeartbeats 4000000 in
theorem k_63b_2_2 {cn N : Nat} {f : Nat → Nat} {l : List R5} {p q : Int32} {S : DS} (hD : kD mk S I A) (ho : dO S = false) (hmk : mks mk sn) (hn : 77 ≤ n ∧ n < 10000) (hu : u + 6 < 1000000) (hcn : cn ≤ 16) (hc : I 46 = nI cn) (hf : ∀ k, k < cn → f k < 16) (hsl : ∀ j, j < cn → A 38 j = nI (f j)) (hN : I 48 = nI N) (hNb : N + 4 < 2 ^ 31) (hB : BT 2 I A l p q) (hl1 : 1 ≤ l.length) (hl4 : l.length ≤ 4) (hnf : cn = 0 ∨ 128 < mB (dD S) (f (cn - 1)) + (eBt (nI (bB (dD S) (f (cn - 1)))) p q (nmb N l)).length) {s : Nat} (hs : s < 16) (hfr : frS (dD S) 16 0 = nI s) (hc16 : cn < 16) {Q : mO × mHp → Prop} (kk : dO (wrs S (hdW s 2 N :: apW s 8 (eBt (nI N) p q (nmb N l)))) = false → ∀ I' A', Fr [2, 3, 14, 15, 46, 48] I I' → Fr [0, 3, 4, 38, 20] A A' → kD mk (wrs S (hdW s 2 N :: apW s 8 (eBt (nI N) p q (nmb N l)))) I' A' → I' 48 = nI (N + l.length) → BT 2 I' A' (nmb N l) p q → I' 46 = nI (cn + 1) → A' 38 = upd (A 38) cn (nI s) → Q (.inl (some (.int (nI N))), hS n u I' A' J B mk sn L xs X)) (kx : dO (wrs S (hdW s 2 N :: apW s 8 (eBt (nI N) p q (nmb N l)))) = true → ∀ I' A', Up 60 I I' → Up 50 A A' → kD mk (wrs S (hdW s 2 N :: apW s 8 (eBt (nI N) p q (nmb N l)))) I' A' → Q (.inr n, hS (n + 1) (u + 6) I' A' J B mk sn L xs (va_up X n (.inr (9, []))))) : mq 63 0 [some (.ref 1), some (.ref 23), some (.ref 53), none, none, none] [] (hS n u I A J B mk sn L xs X) Q := by
  have hel := eBt_len (nI N) p q (nmb N l)
  rw [nmb_len] at hel
  obtain ⟨t, ht⟩ : ∃ x, x = eBt (nI N) p q (nmb N l) := ⟨_, rfl⟩
  rw [← ht] at kk kx hel
  have htb : ∀ i, gB0 t i < 256 := by
    rw [ht]
    exact gB0_by (eBt_by _ _ _ _)
  have ev : wrs S (hdW s 2 N :: apW s 8 (t)) = wr1 (wrs (wr1 S (hdW s 2 N)) (spW s 8 (8 + (t).length) (t) 4 8)) (mkW s (8 + (t).length)) := by
    show wrs (wr1 S (hdW s 2 N)) (apW s 8 t) = _
    unfold apW
    rw [wrs_app]
    rfl
  refine x_al1 (pc := 0) rfl rfl ?_
  refine g_23_7 (pc := 1) (v := nI N) rfl rfl hN ?_
  refine x_is1 (pc := 4) (ml' := [some (.ref 1), some (.ref 23), some (.ref 53), some (.int (nI N)), none, none]) rfl rfl ?_
  refine x_al1 (pc := 5) rfl rfl ?_
  refine g_53_0 (pc := 6) rfl rfl ?_
  refine x_il1 (pc := 9) rfl rfl ?_
  refine x_k (pc := 10) rfl rfl rfl ⟨Nat.le_of_ble_eq_true rfl, Nat.le_of_ble_eq_true rfl, Nat.le_of_ble_eq_true rfl⟩ rfl (k_64_2 (I := I) (A := A) (N := N) (l := l) hB hl4 (fun A1 g1 hB1 => ?_))
  show mq 63 13 [some (.ref 1), some (.ref 23), some (.ref 53), some (.int (nI N)), none, none] [] (hS n u I A1 J B mk sn L xs X) _
  refine x_al1 (pc := 13) rfl rfl ?_
  refine x_al1 (pc := 14) rfl rfl ?_
  refine x_al1 (pc := 15) rfl rfl ?_
  refine x_k (pc := 16) rfl rfl rfl ⟨Nat.le_of_ble_eq_true rfl, Nat.le_of_ble_eq_true rfl, Nat.le_of_ble_eq_true rfl⟩ rfl (k_65b_2_2 (I := I) (A := A1) (l := nmb N l) (kD_on hD ho (Fr_refl [] I) g1 (by decide) (by decide)) ho hcn hc hf (fun j hj => by rw [g1 38 (by decide)]; exact hsl j hj) hN hNb hB1 (by rw [nmb_len]; exact hl1) (by rw [nmb_len]; exact hl4) hnf hs hfr hc16 hmk hn hu (fun o2 I2 A2 f2 g2 h2 c2 d2 => ?_) (fun o2 I2 A2 f2 g2 h2 => mK_x rfl (kx (by rw [ev, wr1_off _ (by rw [wrs_off _ o2]; exact o2), wrs_off _ o2]; exact o2) I2 A2 f2 (Up_tr (Up_fr g1 (by decide)) g2) (by rw [ev, wr1_off _ (by rw [wrs_off _ o2]; exact o2), wrs_off _ o2]; exact h2))))
  show mq 63 19 [some (.ref 1), some (.ref 23), some (.ref 53), some (.int (nI N)), none, none] [.int (nI s)] (hS n u I2 A2 J B mk sn L xs X) _
  refine x_is2 (pc := 19) (ml' := [some (.ref 1), some (.ref 23), some (.ref 53), some (.int (nI N)), some (.int (nI s)), none]) rfl rfl ?_
  refine x_il2 (pc := 21) rfl rfl ?_
  refine x_ifN_ge (pc := 23) (t := 37) rfl rfl (by omega) ?_
  have kq := h2
  have oq := o2
  have bq := BT_fr2 hB1 f2 g2 (by decide) (by decide)
  have hb8 := hd_D o2 (by omega)
  have hfit8 : 8 + t.length ≤ 128 := by omega
  refine x_al1 (pc := 37) rfl rfl ?_
  refine g_1_0 (pc := 38) rfl rfl ?_
  refine x_il2 (pc := 41) rfl rfl ?_
  refine x_k (pc := 43) rfl rfl rfl ⟨Nat.le_of_ble_eq_true rfl, Nat.le_of_ble_eq_true rfl, Nat.le_of_ble_eq_true rfl⟩ rfl (mq_k (c_37 (I := I2) (A := A2) (D := dD (wr1 S (hdW s 2 N))) (kq).2.1 hs) ?_)
  show mq 63 46 [some (.ref 1), some (.ref 23), some (.ref 53), some (.int (nI N)), some (.int (nI s)), none] [.int (nI (mB (dD (wr1 S (hdW s 2 N))) s))] (hS n u I2 A2 J B mk sn L xs X) _
  refine x_top (y := nI 8) (congrArg nI hb8.1) ?_
  refine x_is2 (pc := 46) (ml' := [some (.ref 1), some (.ref 23), some (.ref 53), some (.int (nI N)), some (.int (nI s)), some (.int (nI 8))]) rfl rfl ?_
  refine x_al1 (pc := 48) rfl rfl ?_
  refine x_il2 (pc := 49) rfl rfl ?_
  refine x_al1 (pc := 51) rfl rfl ?_
  refine x_k (pc := 52) rfl rfl rfl ⟨Nat.le_of_ble_eq_true rfl, Nat.le_of_ble_eq_true rfl, Nat.le_of_ble_eq_true rfl⟩ rfl (k_66_2 (I := I2) (A := A2) (D := dD (wr1 S (hdW s 2 N))) (l := nmb N l) (p := p) (q := q) (kq).2.1 hs (by rw [nmb_len]; exact hl1) (by rw [nmb_len]; exact hl4) bq (fun I6 A6 f6 g6 h6 => ?_))
  show mq 63 55 [some (.ref 1), some (.ref 23), some (.ref 53), some (.int (nI N)), some (.int (nI s)), some (.int (nI 8))] [] (hS n u I6 A6 J B mk sn L xs X) _
  rw [hb8.2, ← ht] at h6
  have F6 : Fr [2, 3, 14, 15, 46, 48] I I6 := (Fr_cons (Fr_cons (Fr_refl _ _) f2 (by decide)) f6 (by decide))
  have G6 : Fr [0, 3, 4, 38, 20] A A6 := (Fr_cons (Fr_cons (Fr_cons (Fr_refl _ _) g1 (by decide)) g2 (by decide)) g6 (by decide))
  refine x_al1 (pc := 55) rfl rfl ?_
  refine x_il2 (pc := 56) rfl rfl ?_
  refine x_il2 (pc := 58) rfl rfl ?_
  refine x_k (pc := 60) rfl rfl rfl ⟨Nat.le_of_ble_eq_true rfl, Nat.le_of_ble_eq_true rfl, Nat.le_of_ble_eq_true rfl⟩ rfl (k_73 (I := I6) (A := A6) (S := wr1 S (hdW s 2 N)) (s := s) (m := 8) (t := t) hs htb hfit8 h6 (kD_on kq oq f6 g6 (by decide) (by decide)) oq hmk hn hu (fun o7 I7 A7 f7 g7 h7 => ?_) (fun o7 I7 A7 f7 g7 h7 => mK_x rfl (kx (by rw [ev, wr1_off _ o7]; exact o7) I7 A7 (Up_tr (Up_fr F6 (by decide)) f7) (Up_tr (Up_fr G6 (by decide)) g7) (by rw [ev, wr1_off _ o7]; exact h7))))
  show mq 63 63 [some (.ref 1), some (.ref 23), some (.ref 53), some (.int (nI N)), some (.int (nI s)), some (.int (nI 8))] [] (hS n u I7 A7 J B mk sn L xs X) _
  refine x_al1 (pc := 63) rfl rfl ?_
  refine x_il2 (pc := 64) rfl rfl ?_
  refine x_il2 (pc := 66) rfl rfl ?_
  refine x_al1 (pc := 68) rfl rfl ?_
  refine g_1_7 (pc := 69) rfl rfl ?_
  refine g_49_1 (pc := 72) (v := nI ((t).length)) rfl rfl ((f7 14 (by decide)).trans h6.1) ?_
  refine x_iaddN (pc := 75) (c := 8 + ((t).length)) rfl rfl ?_
  refine x_k (pc := 76) rfl rfl rfl ⟨Nat.le_of_ble_eq_true rfl, Nat.le_of_ble_eq_true rfl, Nat.le_of_ble_eq_true rfl⟩ rfl (k_74 (I := I7) (A := A7) (s := s) (v := 8 + (t).length) (S := wrs (wr1 S (hdW s 2 N)) (spW s 8 (8 + (t).length) (t) 4 8)) hs (by omega) h7 o7 hmk hn hu (fun o8 I8 A8 f8 g8 h8 => ?_) (fun o8 I8 A8 f8 g8 h8 => mK_x rfl (kx (by rw [ev]; exact o8) I8 A8 (Up_tr (Up_fr F6 (by decide)) (Up_tr (Up_fr f7 (by decide)) f8)) (Up_tr (Up_fr G6 (by decide)) (Up_tr (Up_fr g7 (by decide)) g8)) (by rw [ev]; exact h8))))
  show mq 63 79 [some (.ref 1), some (.ref 23), some (.ref 53), some (.int (nI N)), some (.int (nI s)), some (.int (nI 8))] [] (hS n u I8 A8 J B mk sn L xs X) _
  refine x_al1 (pc := 79) rfl rfl ?_
  refine x_il1 (pc := 80) rfl rfl ?_
  refine x_al1 (pc := 81) rfl rfl ?_
  refine g_53_0 (pc := 82) rfl rfl ?_
  refine g_54_5 (pc := 85) (v := nI l.length) rfl rfl ((f8 28 (by decide)).trans ((f7 28 (by decide)).trans ((f6 28 (by decide)).trans ((f2 28 (by decide)).trans hB.2.2.1)))) ?_
  refine x_iaddN (pc := 88) (c := N + l.length) rfl rfl ?_
  refine p_23_7 (pc := 89) rfl rfl ?_
  refine x_il1 (pc := 92) rfl rfl ?_
  refine x_ret (pc := 93) rfl rfl ?_
  exact kk (by rw [ev]; exact o8) _ _ (Fr_u (Fr_cons (Fr_cons (Fr_cons (Fr_cons (Fr_refl _ _) f2 (by decide)) f6 (by decide)) f7 (by decide)) f8 (by decide)) (by decide)) (Fr_cons (Fr_cons (Fr_cons (Fr_cons (Fr_cons (Fr_refl _ _) g1 (by decide)) g2 (by decide)) g6 (by decide)) g7 (by decide)) g8 (by decide)) (kD_on (by rw [ev]; exact h8) (by rw [ev]; exact o8) (Fr_up I8 48 _) (Fr_refl [] A8) (by decide) (by decide)) rfl (BT_fr2 (BT_fr2 (BT_fr2 (BT_fr2 bq f6 g6 (by decide) (by decide)) f7 g7 (by decide) (by decide)) f8 g8 (by decide) (by decide)) (Fr_up I8 48 _) (Fr_refl [] A8) (by decide) (by decide)) ((f8 46 (by decide)).trans ((f7 46 (by decide)).trans ((f6 46 (by decide)).trans c2))) (by rw [g8 38 (by decide), g7 38 (by decide), g6 38 (by decide), d2, g1 38 (by decide)])
set_option maxRecDepth 100000 in
set_option maxHeartbeats 4000000 in
theorem k_63c_2_2 {cn N : Nat} {f : Nat → Nat} {l : List R5} {p q : Int32} {S : DS} (hD : kD mk S I A) (ho : dO S = false) (hmk : mks mk sn) (hn : 77 ≤ n ∧ n < 10000) (hu : u + 6 < 1000000) (hcn : cn ≤ 16) (hc : I 46 = nI cn) (hf : ∀ k, k < cn → f k < 16) (hsl : ∀ j, j < cn → A 38 j = nI (f j)) (hN : I 48 = nI N) (hNb : N + 4 < 2 ^ 31) (hB : BT 2 I A l p q) (hl1 : 1 ≤ l.length) (hl4 : l.length ≤ 4) (hnf : cn = 0 ∨ 128 < mB (dD S) (f (cn - 1)) + (eBt (nI (bB (dD S) (f (cn - 1)))) p q (nmb N l)).length) (hfr : frS (dD S) 16 0 = -1) {Q : mO × mHp → Prop} (kr : ∀ I' A', Fr [14] I I' → Fr [3, 20] A A' → Q (.inr n, hS (n + 1) (u + 6) I' A' J B mk sn L xs (va_up X n (.inr (11, []))))) : mq 63 0 [some (.ref 1), some (.ref 23), some (.ref 53), none, none, none] [] (hS n u I A J B mk sn L xs X) Q := by
  refine x_al1 (pc := 0) rfl rfl ?_
  refine g_23_7 (pc := 1) (v := nI N) rfl rfl hN ?_
  refine x_is1 (pc := 4) (ml' := [some (.ref 1), some (.ref 23), some (.ref 53), some (.int (nI N)), none, none]) rfl rfl ?_
  refine x_al1 (pc := 5) rfl rfl ?_
  refine g_53_0 (pc := 6) rfl rfl ?_
  refine x_il1 (pc := 9) rfl rfl ?_
  refine x_k (pc := 10) rfl rfl rfl ⟨Nat.le_of_ble_eq_true rfl, Nat.le_of_ble_eq_true rfl, Nat.le_of_ble_eq_true rfl⟩ rfl (k_64_2 (I := I) (A := A) (N := N) (l := l) hB hl4 (fun A1 g1 hB1 => ?_))
  show mq 63 13 [some (.ref 1), some (.ref 23), some (.ref 53), some (.int (nI N)), none, none] [] (hS n u I A1 J B mk sn L xs X) _
  refine x_al1 (pc := 13) rfl rfl ?_
  refine x_al1 (pc := 14) rfl rfl ?_
  refine x_al1 (pc := 15) rfl rfl ?_
  refine x_k (pc := 16) rfl rfl rfl ⟨Nat.le_of_ble_eq_true rfl, Nat.le_of_ble_eq_true rfl, Nat.le_of_ble_eq_true rfl⟩ rfl (k_65c_2_2 (I := I) (A := A1) (l := nmb N l) (kD_on hD ho (Fr_refl [] I) g1 (by decide) (by decide)) ho hcn hc hf (fun j hj => by rw [g1 38 (by decide)]; exact hsl j hj) hN hNb hB1 (by rw [nmb_len]; exact hl1) (by rw [nmb_len]; exact hl4) hnf hfr (fun I2 A2 f2 g2 => ?_))
  show mq 63 19 [some (.ref 1), some (.ref 23), some (.ref 53), some (.int (nI N)), none, none] [.int (-1)] (hS n u I2 A2 J B mk sn L xs X) _
  refine x_is2 (pc := 19) (ml' := [some (.ref 1), some (.ref 23), some (.ref 53), some (.int (nI N)), some (.int (-1)), none]) rfl rfl ?_
  refine x_il2 (pc := 21) rfl rfl ?_
  refine x_if_ge (pc := 23) (t := 37) rfl rfl rfl (fun c => absurd c (by decide)) (fun _ => ?_)
  refine x_thr (pc := 26) rfl rfl hn hu rfl ⟨Nat.le_of_ble_eq_true rfl, Nat.le_of_ble_eq_true rfl⟩ ?_
  exact kr _ _ (Fr_cons (Fr_refl _ _) f2 (by decide)) (Fr_cons (Fr_cons (Fr_refl _ _) g1 (by decide)) g2 (by decide))
set_option maxRecDepth 100000 in
set_option maxHeartbeats 4000000 in
theorem k_63_2_2 {cn N : Nat} {f : Nat → Nat} {l : List R5} {p q : Int32} {S : DS} (hD : kD mk S I A) (ho : dO S = false) (hmk : mks mk sn) (hn : 77 ≤ n ∧ n < 10000) (hu : u + 6 < 1000000) (hcn : cn ≤ 16) (hc : I 46 = nI cn) (hf : ∀ k, k < cn → f k < 16) (hsl : ∀ j, j < cn → A 38 j = nI (f j)) (hN : I 48 = nI N) (hNb : N + 4 < 2 ^ 31) (hB : BT 2 I A l p q) (hl1 : 1 ≤ l.length) (hl4 : l.length ≤ 4) (hroom : frS (dD S) 16 0 = -1 ∨ cn < 16) {Q : mO × mHp → Prop} (kk : ∀ S' f' cn', apS S 2 f cn N p q (nmb N l) = some (S', f', cn') → dO S' = false → ∀ I' A', Fr [2, 3, 14, 15, 46, 48] I I' → Fr [0, 3, 4, 38, 20] A A' → kD mk S' I' A' → I' 48 = nI (N + l.length) → BT 2 I' A' (nmb N l) p q → I' 46 = nI cn' → (∀ j, j < cn' → A' 38 j = nI (f' j)) → Q (.inl (some (.int (nI N))), hS n u I' A' J B mk sn L xs X)) (kx : ∀ S' f' cn', apS S 2 f cn N p q (nmb N l) = some (S', f', cn') → dO S' = true → ∀ I' A', Up 60 I I' → Up 50 A A' → kD mk S' I' A' → Q (.inr n, hS (n + 1) (u + 6) I' A' J B mk sn L xs (va_up X n (.inr (9, []))))) (kr : apS S 2 f cn N p q (nmb N l) = none → ∀ I' A', Fr [14] I I' → Fr [3, 20] A A' → Q (.inr n, hS (n + 1) (u + 6) I' A' J B mk sn L xs (va_up X n (.inr (11, []))))) : mq 63 0 [some (.ref 1), some (.ref 23), some (.ref 53), none, none, none] [] (hS n u I A J B mk sn L xs X) Q := by
  by_cases hfit : 0 < cn ∧ mB (dD S) (f (cn - 1)) + (eBt (nI (bB (dD S) (f (cn - 1)))) p q (nmb N l)).length ≤ 128
  · have e : apS S 2 f cn N p q (nmb N l) = some (_, f, cn) := if_pos hfit
    refine k_63a_2_2 hD ho hmk hn hu hcn hc hf hsl hN hNb hB hl1 hl4 hfit.1 hfit.2 (fun o1 I1 A1 f1 g1 h1 n1 b1 => ?_) (fun o1 I1 A1 f1 g1 h1 => kx _ _ _ e o1 I1 A1 f1 g1 h1)
    exact kk _ _ _ e o1 I1 A1 (Fr_cons (Fr_refl _ I) f1 (by decide)) (Fr_cons (Fr_refl _ A) g1 (by decide)) h1 n1 b1 ((f1 46 (by decide)).trans hc) (fun j hj => by rw [g1 38 (by decide)]; exact hsl j hj)
  · have hnf : cn = 0 ∨ 128 < mB (dD S) (f (cn - 1)) + (eBt (nI (bB (dD S) (f (cn - 1)))) p q (nmb N l)).length := by
      by_cases h0 : cn = 0
      · exact Or.inl h0
      · exact Or.inr (Nat.lt_of_not_le (fun q => hfit ⟨Nat.pos_of_ne_zero h0, q⟩))
    by_cases hfr : frS (dD S) 16 0 = -1
    · have e : apS S 2 f cn N p q (nmb N l) = none := (if_neg hfit).trans (if_pos hfr)
      exact k_63c_2_2 hD ho hmk hn hu hcn hc hf hsl hN hNb hB hl1 hl4 hnf hfr (fun I1 A1 f1 g1 => kr e I1 A1 f1 g1)
    · have e : apS S 2 f cn N p q (nmb N l) = some (_, _, cn + 1) := (if_neg hfit).trans (if_neg hfr)
      rcases frN_spec (dD S) 16 0 with h5 | h5
      · exact absurd h5.1 hfr
      · have hc16 : cn < 16 := by
          rcases hroom with h6 | h6
          · exact absurd h6 hfr
          · exact h6
        refine k_63b_2_2 hD ho hmk hn hu hcn hc hf hsl hN hNb hB hl1 hl4 hnf (by omega) h5.1 hc16 (fun o1 I1 A1 f1 g1 h1 n1 b1 c1 d1 => ?_) (fun o1 I1 A1 f1 g1 h1 => kx _ _ _ e o1 I1 A1 f1 g1 h1)
        refine kk _ _ _ e o1 I1 A1 f1 g1 h1 n1 b1 c1 (fun j hj => ?_)
        rw [d1]
        by_cases h7 : j = cn
        · rw [h7, pk_us, if_pos rfl]
        · rw [pk_un h7, if_neg h7]
          exact hsl j (by omega)
set_option maxRecDepth 100000 in
set_option maxHeartbeats 4000000 in
theorem k_63a_2_3 {cn N : Nat} {f : Nat → Nat} {l : List R5} {p q : Int32} {S : DS} (hD : kD mk S I A) (ho : dO S = false) (hmk : mks mk sn) (hn : 77 ≤ n ∧ n < 10000) (hu : u + 6 < 1000000) (hcn : cn ≤ 16) (hc : I 46 = nI cn) (hf : ∀ k, k < cn → f k < 16) (hsl : ∀ j, j < cn → A 38 j = nI (f j)) (hN : I 48 = nI N) (hNb : N + 4 < 2 ^ 31) (hB : BT 3 I A l p q) (hl1 : 1 ≤ l.length) (hl4 : l.length ≤ 4) (hp : 0 < cn) (hfit : mB (dD S) (f (cn - 1)) + (eBt (nI (bB (dD S) (f (cn - 1)))) p q (nmb N l)).length ≤ 128) {Q : mO × mHp → Prop} (kk : dO (wrs S (apW (f (cn - 1)) (mB (dD S) (f (cn - 1))) (eBt (nI (bB (dD S) (f (cn - 1)))) p q (nmb N l)))) = false → ∀ I' A', Fr [2, 3, 14, 15, 48] I I' → Fr [0, 3, 4, 25] A A' → kD mk (wrs S (apW (f (cn - 1)) (mB (dD S) (f (cn - 1))) (eBt (nI (bB (dD S) (f (cn - 1)))) p q (nmb N l)))) I' A' → I' 48 = nI (N + l.length) → BT 3 I' A' (nmb N l) p q → Q (.inl (some (.int (nI N))), hS n u I' A' J B mk sn L xs X)) (kx : dO (wrs S (apW (f (cn - 1)) (mB (dD S) (f (cn - 1))) (eBt (nI (bB (dD S) (f (cn - 1)))) p q (nmb N l)))) = true → ∀ I' A', Up 60 I I' → Up 50 A A' → kD mk (wrs S (apW (f (cn - 1)) (mB (dD S) (f (cn - 1))) (eBt (nI (bB (dD S) (f (cn - 1)))) p q (nmb N l)))) I' A' → Q (.inr n, hS (n + 1) (u + 6) I' A' J B mk sn L xs (va_up X n (.inr (9, []))))) : mq 63 0 [some (.ref 1), some (.ref 23), some (.ref 60), none, none, none] [] (hS n u I A J B mk sn L xs X) Q := by
  obtain ⟨t, ht⟩ : ∃ x, x = eBt (nI (bB (dD S) (f (cn - 1)))) p q (nmb N l) := ⟨_, rfl⟩
  rw [← ht] at hfit kk kx
  have htb : ∀ i, gB0 t i < 256 := by
    rw [ht]
    exact gB0_by (eBt_by _ _ _ _)
  refine x_al1 (pc := 0) rfl rfl ?_
  refine g_23_7 (pc := 1) (v := nI N) rfl rfl hN ?_
  refine x_is1 (pc := 4) (ml' := [some (.ref 1), some (.ref 23), some (.ref 60), some (.int (nI N)), none, none]) rfl rfl ?_
  refine x_al1 (pc := 5) rfl rfl ?_
  refine g_60_0 (pc := 6) rfl rfl ?_
  refine x_il1 (pc := 9) rfl rfl ?_
  refine x_k (pc := 10) rfl rfl rfl ⟨Nat.le_of_ble_eq_true rfl, Nat.le_of_ble_eq_true rfl, Nat.le_of_ble_eq_true rfl⟩ rfl (k_64_3 (I := I) (A := A) (N := N) (l := l) hB hl4 (fun A1 g1 hB1 => ?_))
  show mq 63 13 [some (.ref 1), some (.ref 23), some (.ref 60), some (.int (nI N)), none, none] [] (hS n u I A1 J B mk sn L xs X) _
  refine x_al1 (pc := 13) rfl rfl ?_
  refine x_al1 (pc := 14) rfl rfl ?_
  refine x_al1 (pc := 15) rfl rfl ?_
  refine x_k (pc := 16) rfl rfl rfl ⟨Nat.le_of_ble_eq_true rfl, Nat.le_of_ble_eq_true rfl, Nat.le_of_ble_eq_true rfl⟩ rfl (k_65a_2_3 (I := I) (A := A1) (l := nmb N l) (kD_on hD ho (Fr_refl [] I) g1 (by decide) (by decide)) ho hcn hc hf (fun j hj => by rw [g1 38 (by decide)]; exact hsl j hj) hN hNb hB1 (by rw [nmb_len]; exact hl1) (by rw [nmb_len]; exact hl4) hp (by rw [← ht]; exact hfit) (fun I2 A2 f2 g2 => ?_))
  show mq 63 19 [some (.ref 1), some (.ref 23), some (.ref 60), some (.int (nI N)), none, none] [.int (nI (f (cn - 1)))] (hS n u I2 A2 J B mk sn L xs X) _
  refine x_is2 (pc := 19) (ml' := [some (.ref 1), some (.ref 23), some (.ref 60), some (.int (nI N)), some (.int (nI (f (cn - 1)))), none]) rfl rfl ?_
  refine x_il2 (pc := 21) rfl rfl ?_
  refine x_ifN_ge (pc := 23) (t := 37) rfl rfl (by have := hf (cn - 1) (by omega); omega) ?_
  have kq := kD_on (kD_on hD ho (Fr_refl [] I) g1 (by decide) (by decide)) ho f2 g2 (by decide) (by decide)
  have oq := ho
  have bq := BT_fr2 hB1 f2 g2 (by decide) (by decide)
  have hmb := mB_lt hD.2.1.2.1 (f (cn - 1))
  have hfit8 : mB (dD S) (f (cn - 1)) + t.length ≤ 128 := hfit
  have ev : wrs S (apW (f (cn - 1)) (mB (dD S) (f (cn - 1))) (t)) = wr1 (wrs S (spW (f (cn - 1)) (mB (dD S) (f (cn - 1))) (mB (dD S) (f (cn - 1)) + (t).length) (t) 4 (mB (dD S) (f (cn - 1))))) (mkW (f (cn - 1)) (mB (dD S) (f (cn - 1)) + (t).length)) := by
    unfold apW
    rw [wrs_app]
    rfl
  refine x_al1 (pc := 37) rfl rfl ?_
  refine g_1_0 (pc := 38) rfl rfl ?_
  refine x_il2 (pc := 41) rfl rfl ?_
  refine x_k (pc := 43) rfl rfl rfl ⟨Nat.le_of_ble_eq_true rfl, Nat.le_of_ble_eq_true rfl, Nat.le_of_ble_eq_true rfl⟩ rfl (mq_k (c_37 (I := I2) (A := A2) (D := dD (S)) (kq).2.1 (hf _ (by omega))) ?_)
  show mq 63 46 [some (.ref 1), some (.ref 23), some (.ref 60), some (.int (nI N)), some (.int (nI (f (cn - 1)))), none] [.int (nI (mB (dD (S)) (f (cn - 1))))] (hS n u I2 A2 J B mk sn L xs X) _
  refine x_is2 (pc := 46) (ml' := [some (.ref 1), some (.ref 23), some (.ref 60), some (.int (nI N)), some (.int (nI (f (cn - 1)))), some (.int (nI (mB (dD (S)) (f (cn - 1)))))]) rfl rfl ?_
  refine x_al1 (pc := 48) rfl rfl ?_
  refine x_il2 (pc := 49) rfl rfl ?_
  refine x_al1 (pc := 51) rfl rfl ?_
  refine x_k (pc := 52) rfl rfl rfl ⟨Nat.le_of_ble_eq_true rfl, Nat.le_of_ble_eq_true rfl, Nat.le_of_ble_eq_true rfl⟩ rfl (k_66_3 (I := I2) (A := A2) (D := dD (S)) (l := nmb N l) (p := p) (q := q) (kq).2.1 (hf _ (by omega)) (by rw [nmb_len]; exact hl1) (by rw [nmb_len]; exact hl4) bq (fun I6 A6 f6 g6 h6 => ?_))
  show mq 63 55 [some (.ref 1), some (.ref 23), some (.ref 60), some (.int (nI N)), some (.int (nI (f (cn - 1)))), some (.int (nI (mB (dD (S)) (f (cn - 1)))))] [] (hS n u I6 A6 J B mk sn L xs X) _
  rw [← ht] at h6
  have F6 : Fr [2, 3, 14, 15, 48] I I6 := (Fr_cons (Fr_cons (Fr_refl _ _) f2 (by decide)) f6 (by decide))
  have G6 : Fr [0, 3, 4, 25] A A6 := (Fr_cons (Fr_cons (Fr_cons (Fr_refl _ _) g1 (by decide)) g2 (by decide)) g6 (by decide))
  refine x_al1 (pc := 55) rfl rfl ?_
  refine x_il2 (pc := 56) rfl rfl ?_
  refine x_il2 (pc := 58) rfl rfl ?_
  refine x_k (pc := 60) rfl rfl rfl ⟨Nat.le_of_ble_eq_true rfl, Nat.le_of_ble_eq_true rfl, Nat.le_of_ble_eq_true rfl⟩ rfl (k_73 (I := I6) (A := A6) (S := S) (s := f (cn - 1)) (m := mB (dD S) (f (cn - 1))) (t := t) (hf _ (by omega)) htb hfit8 h6 (kD_on kq oq f6 g6 (by decide) (by decide)) oq hmk hn hu (fun o7 I7 A7 f7 g7 h7 => ?_) (fun o7 I7 A7 f7 g7 h7 => mK_x rfl (kx (by rw [ev, wr1_off _ o7]; exact o7) I7 A7 (Up_tr (Up_fr F6 (by decide)) f7) (Up_tr (Up_fr G6 (by decide)) g7) (by rw [ev, wr1_off _ o7]; exact h7))))
  show mq 63 63 [some (.ref 1), some (.ref 23), some (.ref 60), some (.int (nI N)), some (.int (nI (f (cn - 1)))), some (.int (nI (mB (dD (S)) (f (cn - 1)))))] [] (hS n u I7 A7 J B mk sn L xs X) _
  refine x_al1 (pc := 63) rfl rfl ?_
  refine x_il2 (pc := 64) rfl rfl ?_
  refine x_il2 (pc := 66) rfl rfl ?_
  refine x_al1 (pc := 68) rfl rfl ?_
  refine g_1_7 (pc := 69) rfl rfl ?_
  refine g_49_1 (pc := 72) (v := nI ((t).length)) rfl rfl ((f7 14 (by decide)).trans h6.1) ?_
  refine x_iaddN (pc := 75) (c := (mB (dD (S)) (f (cn - 1))) + ((t).length)) rfl rfl ?_
  refine x_k (pc := 76) rfl rfl rfl ⟨Nat.le_of_ble_eq_true rfl, Nat.le_of_ble_eq_true rfl, Nat.le_of_ble_eq_true rfl⟩ rfl (k_74 (I := I7) (A := A7) (s := f (cn - 1)) (v := (mB (dD S) (f (cn - 1))) + (t).length) (S := wrs (S) (spW (f (cn - 1)) (mB (dD S) (f (cn - 1))) ((mB (dD S) (f (cn - 1))) + (t).length) (t) 4 (mB (dD S) (f (cn - 1))))) (hf _ (by omega)) (by omega) h7 o7 hmk hn hu (fun o8 I8 A8 f8 g8 h8 => ?_) (fun o8 I8 A8 f8 g8 h8 => mK_x rfl (kx (by rw [ev]; exact o8) I8 A8 (Up_tr (Up_fr F6 (by decide)) (Up_tr (Up_fr f7 (by decide)) f8)) (Up_tr (Up_fr G6 (by decide)) (Up_tr (Up_fr g7 (by decide)) g8)) (by rw [ev]; exact h8))))
  show mq 63 79 [some (.ref 1), some (.ref 23), some (.ref 60), some (.int (nI N)), some (.int (nI (f (cn - 1)))), some (.int (nI (mB (dD (S)) (f (cn - 1)))))] [] (hS n u I8 A8 J B mk sn L xs X) _
  refine x_al1 (pc := 79) rfl rfl ?_
  refine x_il1 (pc := 80) rfl rfl ?_
  refine x_al1 (pc := 81) rfl rfl ?_
  refine g_60_0 (pc := 82) rfl rfl ?_
  refine g_61_5 (pc := 85) (v := nI l.length) rfl rfl ((f8 31 (by decide)).trans ((f7 31 (by decide)).trans ((f6 31 (by decide)).trans ((f2 31 (by decide)).trans hB.2.2.1)))) ?_
  refine x_iaddN (pc := 88) (c := N + l.length) rfl rfl ?_
  refine p_23_7 (pc := 89) rfl rfl ?_
  refine x_il1 (pc := 92) rfl rfl ?_
  refine x_ret (pc := 93) rfl rfl ?_
  exact kk (by rw [ev]; exact o8) _ _ (Fr_u (Fr_cons (Fr_cons (Fr_cons (Fr_cons (Fr_refl _ _) f2 (by decide)) f6 (by decide)) f7 (by decide)) f8 (by decide)) (by decide)) (Fr_cons (Fr_cons (Fr_cons (Fr_cons (Fr_cons (Fr_refl _ _) g1 (by decide)) g2 (by decide)) g6 (by decide)) g7 (by decide)) g8 (by decide)) (kD_on (by rw [ev]; exact h8) (by rw [ev]; exact o8) (Fr_up I8 48 _) (Fr_refl [] A8) (by decide) (by decide)) rfl (BT_fr2 (BT_fr2 (BT_fr2 (BT_fr2 bq f6 g6 (by decide) (by decide)) f7 g7 (by decide) (by decide)) f8 g8 (by decide) (by decide)) (Fr_up I8 48 _) (Fr_refl [] A8) (by decide) (by decide))
set_option maxRecDepth 100000 in
set_option maxHeartbeats 4000000 in
theorem k_63b_2_3 {cn N : Nat} {f : Nat → Nat} {l : List R5} {p q : Int32} {S : DS} (hD : kD mk S I A) (ho : dO S = false) (hmk : mks mk sn) (hn : 77 ≤ n ∧ n < 10000) (hu : u + 6 < 1000000) (hcn : cn ≤ 16) (hc : I 46 = nI cn) (hf : ∀ k, k < cn → f k < 16) (hsl : ∀ j, j < cn → A 38 j = nI (f j)) (hN : I 48 = nI N) (hNb : N + 4 < 2 ^ 31) (hB : BT 3 I A l p q) (hl1 : 1 ≤ l.length) (hl4 : l.length ≤ 4) (hnf : cn = 0 ∨ 128 < mB (dD S) (f (cn - 1)) + (eBt (nI (bB (dD S) (f (cn - 1)))) p q (nmb N l)).length) {s : Nat} (hs : s < 16) (hfr : frS (dD S) 16 0 = nI s) (hc16 : cn < 16) {Q : mO × mHp → Prop} (kk : dO (wrs S (hdW s 2 N :: apW s 8 (eBt (nI N) p q (nmb N l)))) = false → ∀ I' A', Fr [2, 3, 14, 15, 46, 48] I I' → Fr [0, 3, 4, 38, 25] A A' → kD mk (wrs S (hdW s 2 N :: apW s 8 (eBt (nI N) p q (nmb N l)))) I' A' → I' 48 = nI (N + l.length) → BT 3 I' A' (nmb N l) p q → I' 46 = nI (cn + 1) → A' 38 = upd (A 38) cn (nI s) → Q (.inl (some (.int (nI N))), hS n u I' A' J B mk sn L xs X)) (kx : dO (wrs S (hdW s 2 N :: apW s 8 (eBt (nI N) p q (nmb N l)))) = true → ∀ I' A', Up 60 I I' → Up 50 A A' → kD mk (wrs S (hdW s 2 N :: apW s 8 (eBt (nI N) p q (nmb N l)))) I' A' → Q (.inr n, hS (n + 1) (u + 6) I' A' J B mk sn L xs (va_up X n (.inr (9, []))))) : mq 63 0 [some (.ref 1), some (.ref 23), some (.ref 60), none, none, none] [] (hS n u I A J B mk sn L xs X) Q := by
  have hel := eBt_len (nI N) p q (nmb N l)
  rw [nmb_len] at hel
  obtain ⟨t, ht⟩ : ∃ x, x = eBt (nI N) p q (nmb N l) := ⟨_, rfl⟩
  rw [← ht] at kk kx hel
  have htb : ∀ i, gB0 t i < 256 := by
    rw [ht]
    exact gB0_by (eBt_by _ _ _ _)
  have ev : wrs S (hdW s 2 N :: apW s 8 (t)) = wr1 (wrs (wr1 S (hdW s 2 N)) (spW s 8 (8 + (t).length) (t) 4 8)) (mkW s (8 + (t).length)) := by
    show wrs (wr1 S (hdW s 2 N)) (apW s 8 t) = _
    unfold apW
    rw [wrs_app]
    rfl
  refine x_al1 (pc := 0) rfl rfl ?_
  refine g_23_7 (pc := 1) (v := nI N) rfl rfl hN ?_
  refine x_is1 (pc := 4) (ml' := [some (.ref 1), some (.ref 23), some (.ref 60), some (.int (nI N)), none, none]) rfl rfl ?_
  refine x_al1 (pc := 5) rfl rfl ?_
  refine g_60_0 (pc := 6) rfl rfl ?_
  refine x_il1 (pc := 9) rfl rfl ?_
  refine x_k (pc := 10) rfl rfl rfl ⟨Nat.le_of_ble_eq_true rfl, Nat.le_of_ble_eq_true rfl, Nat.le_of_ble_eq_true rfl⟩ rfl (k_64_3 (I := I) (A := A) (N := N) (l := l) hB hl4 (fun A1 g1 hB1 => ?_))
  show mq 63 13 [some (.ref 1), some (.ref 23), some (.ref 60), some (.int (nI N)), none, none] [] (hS n u I A1 J B mk sn L xs X) _
  refine x_al1 (pc := 13) rfl rfl ?_
  refine x_al1 (pc := 14) rfl rfl ?_
  refine x_al1 (pc := 15) rfl rfl ?_
  refine x_k (pc := 16) rfl rfl rfl ⟨Nat.le_of_ble_eq_true rfl, Nat.le_of_ble_eq_true rfl, Nat.le_of_ble_eq_true rfl⟩ rfl (k_65b_2_3 (I := I) (A := A1) (l := nmb N l) (kD_on hD ho (Fr_refl [] I) g1 (by decide) (by decide)) ho hcn hc hf (fun j hj => by rw [g1 38 (by decide)]; exact hsl j hj) hN hNb hB1 (by rw [nmb_len]; exact hl1) (by rw [nmb_len]; exact hl4) hnf hs hfr hc16 hmk hn hu (fun o2 I2 A2 f2 g2 h2 c2 d2 => ?_) (fun o2 I2 A2 f2 g2 h2 => mK_x rfl (kx (by rw [ev, wr1_off _ (by rw [wrs_off _ o2]; exact o2), wrs_off _ o2]; exact o2) I2 A2 f2 (Up_tr (Up_fr g1 (by decide)) g2) (by rw [ev, wr1_off _ (by rw [wrs_off _ o2]; exact o2), wrs_off _ o2]; exact h2))))
  show mq 63 19 [some (.ref 1), some (.ref 23), some (.ref 60), some (.int (nI N)), none, none] [.int (nI s)] (hS n u I2 A2 J B mk sn L xs X) _
  refine x_is2 (pc := 19) (ml' := [some (.ref 1), some (.ref 23), some (.ref 60), some (.int (nI N)), some (.int (nI s)), none]) rfl rfl ?_
  refine x_il2 (pc := 21) rfl rfl ?_
  refine x_ifN_ge (pc := 23) (t := 37) rfl rfl (by omega) ?_
  have kq := h2
  have oq := o2
  have bq := BT_fr2 hB1 f2 g2 (by decide) (by decide)
  have hb8 := hd_D o2 (by omega)
  have hfit8 : 8 + t.length ≤ 128 := by omega
  refine x_al1 (pc := 37) rfl rfl ?_
  refine g_1_0 (pc := 38) rfl rfl ?_
  refine x_il2 (pc := 41) rfl rfl ?_
  refine x_k (pc := 43) rfl rfl rfl ⟨Nat.le_of_ble_eq_true rfl, Nat.le_of_ble_eq_true rfl, Nat.le_of_ble_eq_true rfl⟩ rfl (mq_k (c_37 (I := I2) (A := A2) (D := dD (wr1 S (hdW s 2 N))) (kq).2.1 hs) ?_)
  show mq 63 46 [some (.ref 1), some (.ref 23), some (.ref 60), some (.int (nI N)), some (.int (nI s)), none] [.int (nI (mB (dD (wr1 S (hdW s 2 N))) s))] (hS n u I2 A2 J B mk sn L xs X) _
  refine x_top (y := nI 8) (congrArg nI hb8.1) ?_
  refine x_is2 (pc := 46) (ml' := [some (.ref 1), some (.ref 23), some (.ref 60), some (.int (nI N)), some (.int (nI s)), some (.int (nI 8))]) rfl rfl ?_
  refine x_al1 (pc := 48) rfl rfl ?_
  refine x_il2 (pc := 49) rfl rfl ?_
  refine x_al1 (pc := 51) rfl rfl ?_
  refine x_k (pc := 52) rfl rfl rfl ⟨Nat.le_of_ble_eq_true rfl, Nat.le_of_ble_eq_true rfl, Nat.le_of_ble_eq_true rfl⟩ rfl (k_66_3 (I := I2) (A := A2) (D := dD (wr1 S (hdW s 2 N))) (l := nmb N l) (p := p) (q := q) (kq).2.1 hs (by rw [nmb_len]; exact hl1) (by rw [nmb_len]; exact hl4) bq (fun I6 A6 f6 g6 h6 => ?_))
  show mq 63 55 [some (.ref 1), some (.ref 23), some (.ref 60), some (.int (nI N)), some (.int (nI s)), some (.int (nI 8))] [] (hS n u I6 A6 J B mk sn L xs X) _
  rw [hb8.2, ← ht] at h6
  have F6 : Fr [2, 3, 14, 15, 46, 48] I I6 := (Fr_cons (Fr_cons (Fr_refl _ _) f2 (by decide)) f6 (by decide))
  have G6 : Fr [0, 3, 4, 38, 25] A A6 := (Fr_cons (Fr_cons (Fr_cons (Fr_refl _ _) g1 (by decide)) g2 (by decide)) g6 (by decide))
  refine x_al1 (pc := 55) rfl rfl ?_
  refine x_il2 (pc := 56) rfl rfl ?_
  refine x_il2 (pc := 58) rfl rfl ?_
  refine x_k (pc := 60) rfl rfl rfl ⟨Nat.le_of_ble_eq_true rfl, Nat.le_of_ble_eq_true rfl, Nat.le_of_ble_eq_true rfl⟩ rfl (k_73 (I := I6) (A := A6) (S := wr1 S (hdW s 2 N)) (s := s) (m := 8) (t := t) hs htb hfit8 h6 (kD_on kq oq f6 g6 (by decide) (by decide)) oq hmk hn hu (fun o7 I7 A7 f7 g7 h7 => ?_) (fun o7 I7 A7 f7 g7 h7 => mK_x rfl (kx (by rw [ev, wr1_off _ o7]; exact o7) I7 A7 (Up_tr (Up_fr F6 (by decide)) f7) (Up_tr (Up_fr G6 (by decide)) g7) (by rw [ev, wr1_off _ o7]; exact h7))))
  show mq 63 63 [some (.ref 1), some (.ref 23), some (.ref 60), some (.int (nI N)), some (.int (nI s)), some (.int (nI 8))] [] (hS n u I7 A7 J B mk sn L xs X) _
  refine x_al1 (pc := 63) rfl rfl ?_
  refine x_il2 (pc := 64) rfl rfl ?_
  refine x_il2 (pc := 66) rfl rfl ?_
  refine x_al1 (pc := 68) rfl rfl ?_
  refine g_1_7 (pc := 69) rfl rfl ?_
  refine g_49_1 (pc := 72) (v := nI ((t).length)) rfl rfl ((f7 14 (by decide)).trans h6.1) ?_
  refine x_iaddN (pc := 75) (c := 8 + ((t).length)) rfl rfl ?_
  refine x_k (pc := 76) rfl rfl rfl ⟨Nat.le_of_ble_eq_true rfl, Nat.le_of_ble_eq_true rfl, Nat.le_of_ble_eq_true rfl⟩ rfl (k_74 (I := I7) (A := A7) (s := s) (v := 8 + (t).length) (S := wrs (wr1 S (hdW s 2 N)) (spW s 8 (8 + (t).length) (t) 4 8)) hs (by omega) h7 o7 hmk hn hu (fun o8 I8 A8 f8 g8 h8 => ?_) (fun o8 I8 A8 f8 g8 h8 => mK_x rfl (kx (by rw [ev]; exact o8) I8 A8 (Up_tr (Up_fr F6 (by decide)) (Up_tr (Up_fr f7 (by decide)) f8)) (Up_tr (Up_fr G6 (by decide)) (Up_tr (Up_fr g7 (by decide)) g8)) (by rw [ev]; exact h8))))
  show mq 63 79 [some (.ref 1), some (.ref 23), some (.ref 60), some (.int (nI N)), some (.int (nI s)), some (.int (nI 8))] [] (hS n u I8 A8 J B mk sn L xs X) _
  refine x_al1 (pc := 79) rfl rfl ?_
  refine x_il1 (pc := 80) rfl rfl ?_
  refine x_al1 (pc := 81) rfl rfl ?_
  refine g_60_0 (pc := 82) rfl rfl ?_
  refine g_61_5 (pc := 85) (v := nI l.length) rfl rfl ((f8 31 (by decide)).trans ((f7 31 (by decide)).trans ((f6 31 (by decide)).trans ((f2 31 (by decide)).trans hB.2.2.1)))) ?_
  refine x_iaddN (pc := 88) (c := N + l.length) rfl rfl ?_
  refine p_23_7 (pc := 89) rfl rfl ?_
  refine x_il1 (pc := 92) rfl rfl ?_
  refine x_ret (pc := 93) rfl rfl ?_
  exact kk (by rw [ev]; exact o8) _ _ (Fr_u (Fr_cons (Fr_cons (Fr_cons (Fr_cons (Fr_refl _ _) f2 (by decide)) f6 (by decide)) f7 (by decide)) f8 (by decide)) (by decide)) (Fr_cons (Fr_cons (Fr_cons (Fr_cons (Fr_cons (Fr_refl _ _) g1 (by decide)) g2 (by decide)) g6 (by decide)) g7 (by decide)) g8 (by decide)) (kD_on (by rw [ev]; exact h8) (by rw [ev]; exact o8) (Fr_up I8 48 _) (Fr_refl [] A8) (by decide) (by decide)) rfl (BT_fr2 (BT_fr2 (BT_fr2 (BT_fr2 bq f6 g6 (by decide) (by decide)) f7 g7 (by decide) (by decide)) f8 g8 (by decide) (by decide)) (Fr_up I8 48 _) (Fr_refl [] A8) (by decide) (by decide)) ((f8 46 (by decide)).trans ((f7 46 (by decide)).trans ((f6 46 (by decide)).trans c2))) (by rw [g8 38 (by decide), g7 38 (by decide), g6 38 (by decide), d2, g1 38 (by decide)])
set_option maxRecDepth 100000 in
set_option maxHeartbeats 4000000 in
theorem k_63c_2_3 {cn N : Nat} {f : Nat → Nat} {l : List R5} {p q : Int32} {S : DS} (hD : kD mk S I A) (ho : dO S = false) (hmk : mks mk sn) (hn : 77 ≤ n ∧ n < 10000) (hu : u + 6 < 1000000) (hcn : cn ≤ 16) (hc : I 46 = nI cn) (hf : ∀ k, k < cn → f k < 16) (hsl : ∀ j, j < cn → A 38 j = nI (f j)) (hN : I 48 = nI N) (hNb : N + 4 < 2 ^ 31) (hB : BT 3 I A l p q) (hl1 : 1 ≤ l.length) (hl4 : l.length ≤ 4) (hnf : cn = 0 ∨ 128 < mB (dD S) (f (cn - 1)) + (eBt (nI (bB (dD S) (f (cn - 1)))) p q (nmb N l)).length) (hfr : frS (dD S) 16 0 = -1) {Q : mO × mHp → Prop} (kr : ∀ I' A', Fr [14] I I' → Fr [3, 25] A A' → Q (.inr n, hS (n + 1) (u + 6) I' A' J B mk sn L xs (va_up X n (.inr (11, []))))) : mq 63 0 [some (.ref 1), some (.ref 23), some (.ref 60), none, none, none] [] (hS n u I A J B mk sn L xs X) Q := by
  refine x_al1 (pc := 0) rfl rfl ?_
  refine g_23_7 (pc := 1) (v := nI N) rfl rfl hN ?_
  refine x_is1 (pc := 4) (ml' := [some (.ref 1), some (.ref 23), some (.ref 60), some (.int (nI N)), none, none]) rfl rfl ?_
  refine x_al1 (pc := 5) rfl rfl ?_
  refine g_60_0 (pc := 6) rfl rfl ?_
  refine x_il1 (pc := 9) rfl rfl ?_
  refine x_k (pc := 10) rfl rfl rfl ⟨Nat.le_of_ble_eq_true rfl, Nat.le_of_ble_eq_true rfl, Nat.le_of_ble_eq_true rfl⟩ rfl (k_64_3 (I := I) (A := A) (N := N) (l := l) hB hl4 (fun A1 g1 hB1 => ?_))
  show mq 63 13 [some (.ref 1), some (.ref 23), some (.ref 60), some (.int (nI N)), none, none] [] (hS n u I A1 J B mk sn L xs X) _
  refine x_al1 (pc := 13) rfl rfl ?_
  refine x_al1 (pc := 14) rfl rfl ?_
  refine x_al1 (pc := 15) rfl rfl ?_
  refine x_k (pc := 16) rfl rfl rfl ⟨Nat.le_of_ble_eq_true rfl, Nat.le_of_ble_eq_true rfl, Nat.le_of_ble_eq_true rfl⟩ rfl (k_65c_2_3 (I := I) (A := A1) (l := nmb N l) (kD_on hD ho (Fr_refl [] I) g1 (by decide) (by decide)) ho hcn hc hf (fun j hj => by rw [g1 38 (by decide)]; exact hsl j hj) hN hNb hB1 (by rw [nmb_len]; exact hl1) (by rw [nmb_len]; exact hl4) hnf hfr (fun I2 A2 f2 g2 => ?_))
  show mq 63 19 [some (.ref 1), some (.ref 23), some (.ref 60), some (.int (nI N)), none, none] [.int (-1)] (hS n u I2 A2 J B mk sn L xs X) _
  refine x_is2 (pc := 19) (ml' := [some (.ref 1), some (.ref 23), some (.ref 60), some (.int (nI N)), some (.int (-1)), none]) rfl rfl ?_
  refine x_il2 (pc := 21) rfl rfl ?_
  refine x_if_ge (pc := 23) (t := 37) rfl rfl rfl (fun c => absurd c (by decide)) (fun _ => ?_)
  refine x_thr (pc := 26) rfl rfl hn hu rfl ⟨Nat.le_of_ble_eq_true rfl, Nat.le_of_ble_eq_true rfl⟩ ?_
  exact kr _ _ (Fr_cons (Fr_refl _ _) f2 (by decide)) (Fr_cons (Fr_cons (Fr_refl _ _) g1 (by decide)) g2 (by decide))
set_option maxRecDepth 100000 in
set_option maxHeartbeats 4000000 in
theorem k_63_2_3 {cn N : Nat} {f : Nat → Nat} {l : List R5} {p q : Int32} {S : DS} (hD : kD mk S I A) (ho : dO S = false) (hmk : mks mk sn) (hn : 77 ≤ n ∧ n < 10000) (hu : u + 6 < 1000000) (hcn : cn ≤ 16) (hc : I 46 = nI cn) (hf : ∀ k, k < cn → f k < 16) (hsl : ∀ j, j < cn → A 38 j = nI (f j)) (hN : I 48 = nI N) (hNb : N + 4 < 2 ^ 31) (hB : BT 3 I A l p q) (hl1 : 1 ≤ l.length) (hl4 : l.length ≤ 4) (hroom : frS (dD S) 16 0 = -1 ∨ cn < 16) {Q : mO × mHp → Prop} (kk : ∀ S' f' cn', apS S 2 f cn N p q (nmb N l) = some (S', f', cn') → dO S' = false → ∀ I' A', Fr [2, 3, 14, 15, 46, 48] I I' → Fr [0, 3, 4, 38, 25] A A' → kD mk S' I' A' → I' 48 = nI (N + l.length) → BT 3 I' A' (nmb N l) p q → I' 46 = nI cn' → (∀ j, j < cn' → A' 38 j = nI (f' j)) → Q (.inl (some (.int (nI N))), hS n u I' A' J B mk sn L xs X)) (kx : ∀ S' f' cn', apS S 2 f cn N p q (nmb N l) = some (S', f', cn') → dO S' = true → ∀ I' A', Up 60 I I' → Up 50 A A' → kD mk S' I' A' → Q (.inr n, hS (n + 1) (u + 6) I' A' J B mk sn L xs (va_up X n (.inr (9, []))))) (kr : apS S 2 f cn N p q (nmb N l) = none → ∀ I' A', Fr [14] I I' → Fr [3, 25] A A' → Q (.inr n, hS (n + 1) (u + 6) I' A' J B mk sn L xs (va_up X n (.inr (11, []))))) : mq 63 0 [some (.ref 1), some (.ref 23), some (.ref 60), none, none, none] [] (hS n u I A J B mk sn L xs X) Q := by
  by_cases hfit : 0 < cn ∧ mB (dD S) (f (cn - 1)) + (eBt (nI (bB (dD S) (f (cn - 1)))) p q (nmb N l)).length ≤ 128
  · have e : apS S 2 f cn N p q (nmb N l) = some (_, f, cn) := if_pos hfit
    refine k_63a_2_3 hD ho hmk hn hu hcn hc hf hsl hN hNb hB hl1 hl4 hfit.1 hfit.2 (fun o1 I1 A1 f1 g1 h1 n1 b1 => ?_) (fun o1 I1 A1 f1 g1 h1 => kx _ _ _ e o1 I1 A1 f1 g1 h1)
    exact kk _ _ _ e o1 I1 A1 (Fr_cons (Fr_refl _ I) f1 (by decide)) (Fr_cons (Fr_refl _ A) g1 (by decide)) h1 n1 b1 ((f1 46 (by decide)).trans hc) (fun j hj => by rw [g1 38 (by decide)]; exact hsl j hj)
  · have hnf : cn = 0 ∨ 128 < mB (dD S) (f (cn - 1)) + (eBt (nI (bB (dD S) (f (cn - 1)))) p q (nmb N l)).length := by
      by_cases h0 : cn = 0
      · exact Or.inl h0
      · exact Or.inr (Nat.lt_of_not_le (fun q => hfit ⟨Nat.pos_of_ne_zero h0, q⟩))
    by_cases hfr : frS (dD S) 16 0 = -1
    · have e : apS S 2 f cn N p q (nmb N l) = none := (if_neg hfit).trans (if_pos hfr)
      exact k_63c_2_3 hD ho hmk hn hu hcn hc hf hsl hN hNb hB hl1 hl4 hnf hfr (fun I1 A1 f1 g1 => kr e I1 A1 f1 g1)
    · have e : apS S 2 f cn N p q (nmb N l) = some (_, _, cn + 1) := (if_neg hfit).trans (if_neg hfr)
      rcases frN_spec (dD S) 16 0 with h5 | h5
      · exact absurd h5.1 hfr
      · have hc16 : cn < 16 := by
          rcases hroom with h6 | h6
          · exact absurd h6 hfr
          · exact h6
        refine k_63b_2_3 hD ho hmk hn hu hcn hc hf hsl hN hNb hB hl1 hl4 hnf (by omega) h5.1 hc16 (fun o1 I1 A1 f1 g1 h1 n1 b1 c1 d1 => ?_) (fun o1 I1 A1 f1 g1 h1 => kx _ _ _ e o1 I1 A1 f1 g1 h1)
        refine kk _ _ _ e o1 I1 A1 f1 g1 h1 n1 b1 c1 (fun j hj => ?_)
        rw [d1]
        by_cases h7 : j = cn
        · rw [h7, pk_us, if_pos rfl]
        · rw [pk_un h7, if_neg h7]
          exact hsl j (by omega)
set_option maxRecDepth 100000 in
set_option maxHeartbeats 4000000 in
theorem k_63a_3_2 {cn N : Nat} {f : Nat → Nat} {l : List R5} {p q : Int32} {S : DS} (hD : kD mk S I A) (ho : dO S = false) (hmk : mks mk sn) (hn : 77 ≤ n ∧ n < 10000) (hu : u + 6 < 1000000) (hcn : cn ≤ 16) (hc : I 49 = nI cn) (hf : ∀ k, k < cn → f k < 16) (hsl : ∀ j, j < cn → A 42 j = nI (f j)) (hN : I 51 = nI N) (hNb : N + 4 < 2 ^ 31) (hB : BT 2 I A l p q) (hl1 : 1 ≤ l.length) (hl4 : l.length ≤ 4) (hp : 0 < cn) (hfit : mB (dD S) (f (cn - 1)) + (eBt (nI (bB (dD S) (f (cn - 1)))) p q (nmb N l)).length ≤ 128) {Q : mO × mHp → Prop} (kk : dO (wrs S (apW (f (cn - 1)) (mB (dD S) (f (cn - 1))) (eBt (nI (bB (dD S) (f (cn - 1)))) p q (nmb N l)))) = false → ∀ I' A', Fr [2, 3, 14, 15, 51] I I' → Fr [0, 3, 4, 20] A A' → kD mk (wrs S (apW (f (cn - 1)) (mB (dD S) (f (cn - 1))) (eBt (nI (bB (dD S) (f (cn - 1)))) p q (nmb N l)))) I' A' → I' 51 = nI (N + l.length) → BT 2 I' A' (nmb N l) p q → Q (.inl (some (.int (nI N))), hS n u I' A' J B mk sn L xs X)) (kx : dO (wrs S (apW (f (cn - 1)) (mB (dD S) (f (cn - 1))) (eBt (nI (bB (dD S) (f (cn - 1)))) p q (nmb N l)))) = true → ∀ I' A', Up 60 I I' → Up 50 A A' → kD mk (wrs S (apW (f (cn - 1)) (mB (dD S) (f (cn - 1))) (eBt (nI (bB (dD S) (f (cn - 1)))) p q (nmb N l)))) I' A' → Q (.inr n, hS (n + 1) (u + 6) I' A' J B mk sn L xs (va_up X n (.inr (9, []))))) : mq 63 0 [some (.ref 1), some (.ref 28), some (.ref 53), none, none, none] [] (hS n u I A J B mk sn L xs X) Q := by
  obtain ⟨t, ht⟩ : ∃ x, x = eBt (nI (bB (dD S) (f (cn - 1)))) p q (nmb N l) := ⟨_, rfl⟩
  rw [← ht] at hfit kk kx
  have htb : ∀ i, gB0 t i < 256 := by
    rw [ht]
    exact gB0_by (eBt_by _ _ _ _)
  refine x_al1 (pc := 0) rfl rfl ?_
  refine g_28_7 (pc := 1) (v := nI N) rfl rfl hN ?_
  refine x_is1 (pc := 4) (ml' := [some (.ref 1), some (.ref 28), some (.ref 53), some (.int (nI N)), none, none]) rfl rfl ?_
  refine x_al1 (pc := 5) rfl rfl ?_
  refine g_53_0 (pc := 6) rfl rfl ?_
  refine x_il1 (pc := 9) rfl rfl ?_
  refine x_k (pc := 10) rfl rfl rfl ⟨Nat.le_of_ble_eq_true rfl, Nat.le_of_ble_eq_true rfl, Nat.le_of_ble_eq_true rfl⟩ rfl (k_64_2 (I := I) (A := A) (N := N) (l := l) hB hl4 (fun A1 g1 hB1 => ?_))
  show mq 63 13 [some (.ref 1), some (.ref 28), some (.ref 53), some (.int (nI N)), none, none] [] (hS n u I A1 J B mk sn L xs X) _
  refine x_al1 (pc := 13) rfl rfl ?_
  refine x_al1 (pc := 14) rfl rfl ?_
  refine x_al1 (pc := 15) rfl rfl ?_
  refine x_k (pc := 16) rfl rfl rfl ⟨Nat.le_of_ble_eq_true rfl, Nat.le_of_ble_eq_true rfl, Nat.le_of_ble_eq_true rfl⟩ rfl (k_65a_3_2 (I := I) (A := A1) (l := nmb N l) (kD_on hD ho (Fr_refl [] I) g1 (by decide) (by decide)) ho hcn hc hf (fun j hj => by rw [g1 42 (by decide)]; exact hsl j hj) hN hNb hB1 (by rw [nmb_len]; exact hl1) (by rw [nmb_len]; exact hl4) hp (by rw [← ht]; exact hfit) (fun I2 A2 f2 g2 => ?_))
  show mq 63 19 [some (.ref 1), some (.ref 28), some (.ref 53), some (.int (nI N)), none, none] [.int (nI (f (cn - 1)))] (hS n u I2 A2 J B mk sn L xs X) _
  refine x_is2 (pc := 19) (ml' := [some (.ref 1), some (.ref 28), some (.ref 53), some (.int (nI N)), some (.int (nI (f (cn - 1)))), none]) rfl rfl ?_
  refine x_il2 (pc := 21) rfl rfl ?_
  refine x_ifN_ge (pc := 23) (t := 37) rfl rfl (by have := hf (cn - 1) (by omega); omega) ?_
  have kq := kD_on (kD_on hD ho (Fr_refl [] I) g1 (by decide) (by decide)) ho f2 g2 (by decide) (by decide)
  have oq := ho
  have bq := BT_fr2 hB1 f2 g2 (by decide) (by decide)
  have hmb := mB_lt hD.2.1.2.1 (f (cn - 1))
  have hfit8 : mB (dD S) (f (cn - 1)) + t.length ≤ 128 := hfit
  have ev : wrs S (apW (f (cn - 1)) (mB (dD S) (f (cn - 1))) (t)) = wr1 (wrs S (spW (f (cn - 1)) (mB (dD S) (f (cn - 1))) (mB (dD S) (f (cn - 1)) + (t).length) (t) 4 (mB (dD S) (f (cn - 1))))) (mkW (f (cn - 1)) (mB (dD S) (f (cn - 1)) + (t).length)) := by
    unfold apW
    rw [wrs_app]
    rfl
  refine x_al1 (pc := 37) rfl rfl ?_
  refine g_1_0 (pc := 38) rfl rfl ?_
  refine x_il2 (pc := 41) rfl rfl ?_
  refine x_k (pc := 43) rfl rfl rfl ⟨Nat.le_of_ble_eq_true rfl, Nat.le_of_ble_eq_true rfl, Nat.le_of_ble_eq_true rfl⟩ rfl (mq_k (c_37 (I := I2) (A := A2) (D := dD (S)) (kq).2.1 (hf _ (by omega))) ?_)
  show mq 63 46 [some (.ref 1), some (.ref 28), some (.ref 53), some (.int (nI N)), some (.int (nI (f (cn - 1)))), none] [.int (nI (mB (dD (S)) (f (cn - 1))))] (hS n u I2 A2 J B mk sn L xs X) _
  refine x_is2 (pc := 46) (ml' := [some (.ref 1), some (.ref 28), some (.ref 53), some (.int (nI N)), some (.int (nI (f (cn - 1)))), some (.int (nI (mB (dD (S)) (f (cn - 1)))))]) rfl rfl ?_
  refine x_al1 (pc := 48) rfl rfl ?_
  refine x_il2 (pc := 49) rfl rfl ?_
  refine x_al1 (pc := 51) rfl rfl ?_
  refine x_k (pc := 52) rfl rfl rfl ⟨Nat.le_of_ble_eq_true rfl, Nat.le_of_ble_eq_true rfl, Nat.le_of_ble_eq_true rfl⟩ rfl (k_66_2 (I := I2) (A := A2) (D := dD (S)) (l := nmb N l) (p := p) (q := q) (kq).2.1 (hf _ (by omega)) (by rw [nmb_len]; exact hl1) (by rw [nmb_len]; exact hl4) bq (fun I6 A6 f6 g6 h6 => ?_))
  show mq 63 55 [some (.ref 1), some (.ref 28), some (.ref 53), some (.int (nI N)), some (.int (nI (f (cn - 1)))), some (.int (nI (mB (dD (S)) (f (cn - 1)))))] [] (hS n u I6 A6 J B mk sn L xs X) _
  rw [← ht] at h6
  have F6 : Fr [2, 3, 14, 15, 51] I I6 := (Fr_cons (Fr_cons (Fr_refl _ _) f2 (by decide)) f6 (by decide))
  have G6 : Fr [0, 3, 4, 20] A A6 := (Fr_cons (Fr_cons (Fr_cons (Fr_refl _ _) g1 (by decide)) g2 (by decide)) g6 (by decide))
  refine x_al1 (pc := 55) rfl rfl ?_
  refine x_il2 (pc := 56) rfl rfl ?_
  refine x_il2 (pc := 58) rfl rfl ?_
  refine x_k (pc := 60) rfl rfl rfl ⟨Nat.le_of_ble_eq_true rfl, Nat.le_of_ble_eq_true rfl, Nat.le_of_ble_eq_true rfl⟩ rfl (k_73 (I := I6) (A := A6) (S := S) (s := f (cn - 1)) (m := mB (dD S) (f (cn - 1))) (t := t) (hf _ (by omega)) htb hfit8 h6 (kD_on kq oq f6 g6 (by decide) (by decide)) oq hmk hn hu (fun o7 I7 A7 f7 g7 h7 => ?_) (fun o7 I7 A7 f7 g7 h7 => mK_x rfl (kx (by rw [ev, wr1_off _ o7]; exact o7) I7 A7 (Up_tr (Up_fr F6 (by decide)) f7) (Up_tr (Up_fr G6 (by decide)) g7) (by rw [ev, wr1_off _ o7]; exact h7))))
  show mq 63 63 [some (.ref 1), some (.ref 28), some (.ref 53), some (.int (nI N)), some (.int (nI (f (cn - 1)))), some (.int (nI (mB (dD (S)) (f (cn - 1)))))] [] (hS n u I7 A7 J B mk sn L xs X) _
  refine x_al1 (pc := 63) rfl rfl ?_
  refine x_il2 (pc := 64) rfl rfl ?_
  refine x_il2 (pc := 66) rfl rfl ?_
  refine x_al1 (pc := 68) rfl rfl ?_
  refine g_1_7 (pc := 69) rfl rfl ?_
  refine g_49_1 (pc := 72) (v := nI ((t).length)) rfl rfl ((f7 14 (by decide)).trans h6.1) ?_
  refine x_iaddN (pc := 75) (c := (mB (dD (S)) (f (cn - 1))) + ((t).length)) rfl rfl ?_
  refine x_k (pc := 76) rfl rfl rfl ⟨Nat.le_of_ble_eq_true rfl, Nat.le_of_ble_eq_true rfl, Nat.le_of_ble_eq_true rfl⟩ rfl (k_74 (I := I7) (A := A7) (s := f (cn - 1)) (v := (mB (dD S) (f (cn - 1))) + (t).length) (S := wrs (S) (spW (f (cn - 1)) (mB (dD S) (f (cn - 1))) ((mB (dD S) (f (cn - 1))) + (t).length) (t) 4 (mB (dD S) (f (cn - 1))))) (hf _ (by omega)) (by omega) h7 o7 hmk hn hu (fun o8 I8 A8 f8 g8 h8 => ?_) (fun o8 I8 A8 f8 g8 h8 => mK_x rfl (kx (by rw [ev]; exact o8) I8 A8 (Up_tr (Up_fr F6 (by decide)) (Up_tr (Up_fr f7 (by decide)) f8)) (Up_tr (Up_fr G6 (by decide)) (Up_tr (Up_fr g7 (by decide)) g8)) (by rw [ev]; exact h8))))
  show mq 63 79 [some (.ref 1), some (.ref 28), some (.ref 53), some (.int (nI N)), some (.int (nI (f (cn - 1)))), some (.int (nI (mB (dD (S)) (f (cn - 1)))))] [] (hS n u I8 A8 J B mk sn L xs X) _
  refine x_al1 (pc := 79) rfl rfl ?_
  refine x_il1 (pc := 80) rfl rfl ?_
  refine x_al1 (pc := 81) rfl rfl ?_
  refine g_53_0 (pc := 82) rfl rfl ?_
  refine g_54_5 (pc := 85) (v := nI l.length) rfl rfl ((f8 28 (by decide)).trans ((f7 28 (by decide)).trans ((f6 28 (by decide)).trans ((f2 28 (by decide)).trans hB.2.2.1)))) ?_
  refine x_iaddN (pc := 88) (c := N + l.length) rfl rfl ?_
  refine p_28_7 (pc := 89) rfl rfl ?_
  refine x_il1 (pc := 92) rfl rfl ?_
  refine x_ret (pc := 93) rfl rfl ?_
  exact kk (by rw [ev]; exact o8) _ _ (Fr_u (Fr_cons (Fr_cons (Fr_cons (Fr_cons (Fr_refl _ _) f2 (by decide)) f6 (by decide)) f7 (by decide)) f8 (by decide)) (by decide)) (Fr_cons (Fr_cons (Fr_cons (Fr_cons (Fr_cons (Fr_refl _ _) g1 (by decide)) g2 (by decide)) g6 (by decide)) g7 (by decide)) g8 (by decide)) (kD_on (by rw [ev]; exact h8) (by rw [ev]; exact o8) (Fr_up I8 51 _) (Fr_refl [] A8) (by decide) (by decide)) rfl (BT_fr2 (BT_fr2 (BT_fr2 (BT_fr2 bq f6 g6 (by decide) (by decide)) f7 g7 (by decide) (by decide)) f8 g8 (by decide) (by decide)) (Fr_up I8 51 _) (Fr_refl [] A8) (by decide) (by decide))
set_option maxRecDepth 100000 in
set_option maxHeartbeats 4000000 in
theorem k_63b_3_2 {cn N : Nat} {f : Nat → Nat} {l : List R5} {p q : Int32} {S : DS} (hD : kD mk S I A) (ho : dO S = false) (hmk : mks mk sn) (hn : 77 ≤ n ∧ n < 10000) (hu : u + 6 < 1000000) (hcn : cn ≤ 16) (hc : I 49 = nI cn) (hf : ∀ k, k < cn → f k < 16) (hsl : ∀ j, j < cn → A 42 j = nI (f j)) (hN : I 51 = nI N) (hNb : N + 4 < 2 ^ 31) (hB : BT 2 I A l p q) (hl1 : 1 ≤ l.length) (hl4 : l.length ≤ 4) (hnf : cn = 0 ∨ 128 < mB (dD S) (f (cn - 1)) + (eBt (nI (bB (dD S) (f (cn - 1)))) p q (nmb N l)).length) {s : Nat} (hs : s < 16) (hfr : frS (dD S) 16 0 = nI s) (hc16 : cn < 16) {Q : mO × mHp → Prop} (kk : dO (wrs S (hdW s 3 N :: apW s 8 (eBt (nI N) p q (nmb N l)))) = false → ∀ I' A', Fr [2, 3, 14, 15, 49, 51] I I' → Fr [0, 3, 4, 42, 20] A A' → kD mk (wrs S (hdW s 3 N :: apW s 8 (eBt (nI N) p q (nmb N l)))) I' A' → I' 51 = nI (N + l.length) → BT 2 I' A' (nmb N l) p q → I' 49 = nI (cn + 1) → A' 42 = upd (A 42) cn (nI s) → Q (.inl (some (.int (nI N))), hS n u I' A' J B mk sn L xs X)) (kx : dO (wrs S (hdW s 3 N :: apW s 8 (eBt (nI N) p q (nmb N l)))) = true → ∀ I' A', Up 60 I I' → Up 50 A A' → kD mk (wrs S (hdW s 3 N :: apW s 8 (eBt (nI N) p q (nmb N l)))) I' A' → Q (.inr n, hS (n + 1) (u + 6) I' A' J B mk sn L xs (va_up X n (.inr (9, []))))) : mq 63 0 [some (.ref 1), some (.ref 28), some (.ref 53), none, none, none] [] (hS n u I A J B mk sn L xs X) Q := by
  have hel := eBt_len (nI N) p q (nmb N l)
  rw [nmb_len] at hel
  obtain ⟨t, ht⟩ : ∃ x, x = eBt (nI N) p q (nmb N l) := ⟨_, rfl⟩
  rw [← ht] at kk kx hel
  have htb : ∀ i, gB0 t i < 256 := by
    rw [ht]
    exact gB0_by (eBt_by _ _ _ _)
  have ev : wrs S (hdW s 3 N :: apW s 8 (t)) = wr1 (wrs (wr1 S (hdW s 3 N)) (spW s 8 (8 + (t).length) (t) 4 8)) (mkW s (8 + (t).length)) := by
    show wrs (wr1 S (hdW s 3 N)) (apW s 8 t) = _
    unfold apW
    rw [wrs_app]
    rfl
  refine x_al1 (pc := 0) rfl rfl ?_
  refine g_28_7 (pc := 1) (v := nI N) rfl rfl hN ?_
  refine x_is1 (pc := 4) (ml' := [some (.ref 1), some (.ref 28), some (.ref 53), some (.int (nI N)), none, none]) rfl rfl ?_
  refine x_al1 (pc := 5) rfl rfl ?_
  refine g_53_0 (pc := 6) rfl rfl ?_
  refine x_il1 (pc := 9) rfl rfl ?_
  refine x_k (pc := 10) rfl rfl rfl ⟨Nat.le_of_ble_eq_true rfl, Nat.le_of_ble_eq_true rfl, Nat.le_of_ble_eq_true rfl⟩ rfl (k_64_2 (I := I) (A := A) (N := N) (l := l) hB hl4 (fun A1 g1 hB1 => ?_))
  show mq 63 13 [some (.ref 1), some (.ref 28), some (.ref 53), some (.int (nI N)), none, none] [] (hS n u I A1 J B mk sn L xs X) _
  refine x_al1 (pc := 13) rfl rfl ?_
  refine x_al1 (pc := 14) rfl rfl ?_
  refine x_al1 (pc := 15) rfl rfl ?_
  refine x_k (pc := 16) rfl rfl rfl ⟨Nat.le_of_ble_eq_true rfl, Nat.le_of_ble_eq_true rfl, Nat.le_of_ble_eq_true rfl⟩ rfl (k_65b_3_2 (I := I) (A := A1) (l := nmb N l) (kD_on hD ho (Fr_refl [] I) g1 (by decide) (by decide)) ho hcn hc hf (fun j hj => by rw [g1 42 (by decide)]; exact hsl j hj) hN hNb hB1 (by rw [nmb_len]; exact hl1) (by rw [nmb_len]; exact hl4) hnf hs hfr hc16 hmk hn hu (fun o2 I2 A2 f2 g2 h2 c2 d2 => ?_) (fun o2 I2 A2 f2 g2 h2 => mK_x rfl (kx (by rw [ev, wr1_off _ (by rw [wrs_off _ o2]; exact o2), wrs_off _ o2]; exact o2) I2 A2 f2 (Up_tr (Up_fr g1 (by decide)) g2) (by rw [ev, wr1_off _ (by rw [wrs_off _ o2]; exact o2), wrs_off _ o2]; exact h2))))
  show mq 63 19 [some (.ref 1), some (.ref 28), some (.ref 53), some (.int (nI N)), none, none] [.int (nI s)] (hS n u I2 A2 J B mk sn L xs X) _
  refine x_is2 (pc := 19) (ml' := [some (.ref 1), some (.ref 28), some (.ref 53), some (.int (nI N)), some (.int (nI s)), none]) rfl rfl ?_
  refine x_il2 (pc := 21) rfl rfl ?_
  refine x_ifN_ge (pc := 23) (t := 37) rfl rfl (by omega) ?_
  have kq := h2
  have oq := o2
  have bq := BT_fr2 hB1 f2 g2 (by decide) (by decide)
  have hb8 := hd_D o2 (by omega)
  have hfit8 : 8 + t.length ≤ 128 := by omega
  refine x_al1 (pc := 37) rfl rfl ?_
  refine g_1_0 (pc := 38) rfl rfl ?_
  refine x_il2 (pc := 41) rfl rfl ?_
  refine x_k (pc := 43) rfl rfl rfl ⟨Nat.le_of_ble_eq_true rfl, Nat.le_of_ble_eq_true rfl, Nat.le_of_ble_eq_true rfl⟩ rfl (mq_k (c_37 (I := I2) (A := A2) (D := dD (wr1 S (hdW s 3 N))) (kq).2.1 hs) ?_)
  show mq 63 46 [some (.ref 1), some (.ref 28), some (.ref 53), some (.int (nI N)), some (.int (nI s)), none] [.int (nI (mB (dD (wr1 S (hdW s 3 N))) s))] (hS n u I2 A2 J B mk sn L xs X) _
  refine x_top (y := nI 8) (congrArg nI hb8.1) ?_
  refine x_is2 (pc := 46) (ml' := [some (.ref 1), some (.ref 28), some (.ref 53), some (.int (nI N)), some (.int (nI s)), some (.int (nI 8))]) rfl rfl ?_
  refine x_al1 (pc := 48) rfl rfl ?_
  refine x_il2 (pc := 49) rfl rfl ?_
  refine x_al1 (pc := 51) rfl rfl ?_
  refine x_k (pc := 52) rfl rfl rfl ⟨Nat.le_of_ble_eq_true rfl, Nat.le_of_ble_eq_true rfl, Nat.le_of_ble_eq_true rfl⟩ rfl (k_66_2 (I := I2) (A := A2) (D := dD (wr1 S (hdW s 3 N))) (l := nmb N l) (p := p) (q := q) (kq).2.1 hs (by rw [nmb_len]; exact hl1) (by rw [nmb_len]; exact hl4) bq (fun I6 A6 f6 g6 h6 => ?_))
  show mq 63 55 [some (.ref 1), some (.ref 28), some (.ref 53), some (.int (nI N)), some (.int (nI s)), some (.int (nI 8))] [] (hS n u I6 A6 J B mk sn L xs X) _
  rw [hb8.2, ← ht] at h6
  have F6 : Fr [2, 3, 14, 15, 49, 51] I I6 := (Fr_cons (Fr_cons (Fr_refl _ _) f2 (by decide)) f6 (by decide))
  have G6 : Fr [0, 3, 4, 42, 20] A A6 := (Fr_cons (Fr_cons (Fr_cons (Fr_refl _ _) g1 (by decide)) g2 (by decide)) g6 (by decide))
  refine x_al1 (pc := 55) rfl rfl ?_
  refine x_il2 (pc := 56) rfl rfl ?_
  refine x_il2 (pc := 58) rfl rfl ?_
  refine x_k (pc := 60) rfl rfl rfl ⟨Nat.le_of_ble_eq_true rfl, Nat.le_of_ble_eq_true rfl, Nat.le_of_ble_eq_true rfl⟩ rfl (k_73 (I := I6) (A := A6) (S := wr1 S (hdW s 3 N)) (s := s) (m := 8) (t := t) hs htb hfit8 h6 (kD_on kq oq f6 g6 (by decide) (by decide)) oq hmk hn hu (fun o7 I7 A7 f7 g7 h7 => ?_) (fun o7 I7 A7 f7 g7 h7 => mK_x rfl (kx (by rw [ev, wr1_off _ o7]; exact o7) I7 A7 (Up_tr (Up_fr F6 (by decide)) f7) (Up_tr (Up_fr G6 (by decide)) g7) (by rw [ev, wr1_off _ o7]; exact h7))))
  show mq 63 63 [some (.ref 1), some (.ref 28), some (.ref 53), some (.int (nI N)), some (.int (nI s)), some (.int (nI 8))] [] (hS n u I7 A7 J B mk sn L xs X) _
  refine x_al1 (pc := 63) rfl rfl ?_
  refine x_il2 (pc := 64) rfl rfl ?_
  refine x_il2 (pc := 66) rfl rfl ?_
  refine x_al1 (pc := 68) rfl rfl ?_
  refine g_1_7 (pc := 69) rfl rfl ?_
  refine g_49_1 (pc := 72) (v := nI ((t).length)) rfl rfl ((f7 14 (by decide)).trans h6.1) ?_
  refine x_iaddN (pc := 75) (c := 8 + ((t).length)) rfl rfl ?_
  refine x_k (pc := 76) rfl rfl rfl ⟨Nat.le_of_ble_eq_true rfl, Nat.le_of_ble_eq_true rfl, Nat.le_of_ble_eq_true rfl⟩ rfl (k_74 (I := I7) (A := A7) (s := s) (v := 8 + (t).length) (S := wrs (wr1 S (hdW s 3 N)) (spW s 8 (8 + (t).length) (t) 4 8)) hs (by omega) h7 o7 hmk hn hu (fun o8 I8 A8 f8 g8 h8 => ?_) (fun o8 I8 A8 f8 g8 h8 => mK_x rfl (kx (by rw [ev]; exact o8) I8 A8 (Up_tr (Up_fr F6 (by decide)) (Up_tr (Up_fr f7 (by decide)) f8)) (Up_tr (Up_fr G6 (by decide)) (Up_tr (Up_fr g7 (by decide)) g8)) (by rw [ev]; exact h8))))
  show mq 63 79 [some (.ref 1), some (.ref 28), some (.ref 53), some (.int (nI N)), some (.int (nI s)), some (.int (nI 8))] [] (hS n u I8 A8 J B mk sn L xs X) _
  refine x_al1 (pc := 79) rfl rfl ?_
  refine x_il1 (pc := 80) rfl rfl ?_
  refine x_al1 (pc := 81) rfl rfl ?_
  refine g_53_0 (pc := 82) rfl rfl ?_
  refine g_54_5 (pc := 85) (v := nI l.length) rfl rfl ((f8 28 (by decide)).trans ((f7 28 (by decide)).trans ((f6 28 (by decide)).trans ((f2 28 (by decide)).trans hB.2.2.1)))) ?_
  refine x_iaddN (pc := 88) (c := N + l.length) rfl rfl ?_
  refine p_28_7 (pc := 89) rfl rfl ?_
  refine x_il1 (pc := 92) rfl rfl ?_
  refine x_ret (pc := 93) rfl rfl ?_
  exact kk (by rw [ev]; exact o8) _ _ (Fr_u (Fr_cons (Fr_cons (Fr_cons (Fr_cons (Fr_refl _ _) f2 (by decide)) f6 (by decide)) f7 (by decide)) f8 (by decide)) (by decide)) (Fr_cons (Fr_cons (Fr_cons (Fr_cons (Fr_cons (Fr_refl _ _) g1 (by decide)) g2 (by decide)) g6 (by decide)) g7 (by decide)) g8 (by decide)) (kD_on (by rw [ev]; exact h8) (by rw [ev]; exact o8) (Fr_up I8 51 _) (Fr_refl [] A8) (by decide) (by decide)) rfl (BT_fr2 (BT_fr2 (BT_fr2 (BT_fr2 bq f6 g6 (by decide) (by decide)) f7 g7 (by decide) (by decide)) f8 g8 (by decide) (by decide)) (Fr_up I8 51 _) (Fr_refl [] A8) (by decide) (by decide)) ((f8 49 (by decide)).trans ((f7 49 (by decide)).trans ((f6 49 (by decide)).trans c2))) (by rw [g8 42 (by decide), g7 42 (by decide), g6 42 (by decide), d2, g1 42 (by decide)])
set_option maxRecDepth 100000 in
set_option maxHeartbeats 4000000 in
theorem k_63c_3_2 {cn N : Nat} {f : Nat → Nat} {l : List R5} {p q : Int32} {S : DS} (hD : kD mk S I A) (ho : dO S = false) (hmk : mks mk sn) (hn : 77 ≤ n ∧ n < 10000) (hu : u + 6 < 1000000) (hcn : cn ≤ 16) (hc : I 49 = nI cn) (hf : ∀ k, k < cn → f k < 16) (hsl : ∀ j, j < cn → A 42 j = nI (f j)) (hN : I 51 = nI N) (hNb : N + 4 < 2 ^ 31) (hB : BT 2 I A l p q) (hl1 : 1 ≤ l.length) (hl4 : l.length ≤ 4) (hnf : cn = 0 ∨ 128 < mB (dD S) (f (cn - 1)) + (eBt (nI (bB (dD S) (f (cn - 1)))) p q (nmb N l)).length) (hfr : frS (dD S) 16 0 = -1) {Q : mO × mHp → Prop} (kr : ∀ I' A', Fr [14] I I' → Fr [3, 20] A A' → Q (.inr n, hS (n + 1) (u + 6) I' A' J B mk sn L xs (va_up X n (.inr (11, []))))) : mq 63 0 [some (.ref 1), some (.ref 28), some (.ref 53), none, none, none] [] (hS n u I A J B mk sn L xs X) Q := by
  refine x_al1 (pc := 0) rfl rfl ?_
  refine g_28_7 (pc := 1) (v := nI N) rfl rfl hN ?_
  refine x_is1 (pc := 4) (ml' := [some (.ref 1), some (.ref 28), some (.ref 53), some (.int (nI N)), none, none]) rfl rfl ?_
  refine x_al1 (pc := 5) rfl rfl ?_
  refine g_53_0 (pc := 6) rfl rfl ?_
  refine x_il1 (pc := 9) rfl rfl ?_
  refine x_k (pc := 10) rfl rfl rfl ⟨Nat.le_of_ble_eq_true rfl, Nat.le_of_ble_eq_true rfl, Nat.le_of_ble_eq_true rfl⟩ rfl (k_64_2 (I := I) (A := A) (N := N) (l := l) hB hl4 (fun A1 g1 hB1 => ?_))
  show mq 63 13 [some (.ref 1), some (.ref 28), some (.ref 53), some (.int (nI N)), none, none] [] (hS n u I A1 J B mk sn L xs X) _
  refine x_al1 (pc := 13) rfl rfl ?_
  refine x_al1 (pc := 14) rfl rfl ?_
  refine x_al1 (pc := 15) rfl rfl ?_
  refine x_k (pc := 16) rfl rfl rfl ⟨Nat.le_of_ble_eq_true rfl, Nat.le_of_ble_eq_true rfl, Nat.le_of_ble_eq_true rfl⟩ rfl (k_65c_3_2 (I := I) (A := A1) (l := nmb N l) (kD_on hD ho (Fr_refl [] I) g1 (by decide) (by decide)) ho hcn hc hf (fun j hj => by rw [g1 42 (by decide)]; exact hsl j hj) hN hNb hB1 (by rw [nmb_len]; exact hl1) (by rw [nmb_len]; exact hl4) hnf hfr (fun I2 A2 f2 g2 => ?_))
  show mq 63 19 [some (.ref 1), some (.ref 28), some (.ref 53), some (.int (nI N)), none, none] [.int (-1)] (hS n u I2 A2 J B mk sn L xs X) _
  refine x_is2 (pc := 19) (ml' := [some (.ref 1), some (.ref 28), some (.ref 53), some (.int (nI N)), some (.int (-1)), none]) rfl rfl ?_
  refine x_il2 (pc := 21) rfl rfl ?_
  refine x_if_ge (pc := 23) (t := 37) rfl rfl rfl (fun c => absurd c (by decide)) (fun _ => ?_)
  refine x_thr (pc := 26) rfl rfl hn hu rfl ⟨Nat.le_of_ble_eq_true rfl, Nat.le_of_ble_eq_true rfl⟩ ?_
  exact kr _ _ (Fr_cons (Fr_refl _ _) f2 (by decide)) (Fr_cons (Fr_cons (Fr_refl _ _) g1 (by decide)) g2 (by decide))
set_option maxRecDepth 100000 in
set_option maxHeartbeats 4000000 in
theorem k_63_3_2 {cn N : Nat} {f : Nat → Nat} {l : List R5} {p q : Int32} {S : DS} (hD : kD mk S I A) (ho : dO S = false) (hmk : mks mk sn) (hn : 77 ≤ n ∧ n < 10000) (hu : u + 6 < 1000000) (hcn : cn ≤ 16) (hc : I 49 = nI cn) (hf : ∀ k, k < cn → f k < 16) (hsl : ∀ j, j < cn → A 42 j = nI (f j)) (hN : I 51 = nI N) (hNb : N + 4 < 2 ^ 31) (hB : BT 2 I A l p q) (hl1 : 1 ≤ l.length) (hl4 : l.length ≤ 4) (hroom : frS (dD S) 16 0 = -1 ∨ cn < 16) {Q : mO × mHp → Prop} (kk : ∀ S' f' cn', apS S 3 f cn N p q (nmb N l) = some (S', f', cn') → dO S' = false → ∀ I' A', Fr [2, 3, 14, 15, 49, 51] I I' → Fr [0, 3, 4, 42, 20] A A' → kD mk S' I' A' → I' 51 = nI (N + l.length) → BT 2 I' A' (nmb N l) p q → I' 49 = nI cn' → (∀ j, j < cn' → A' 42 j = nI (f' j)) → Q (.inl (some (.int (nI N))), hS n u I' A' J B mk sn L xs X)) (kx : ∀ S' f' cn', apS S 3 f cn N p q (nmb N l) = some (S', f', cn') → dO S' = true → ∀ I' A', Up 60 I I' → Up 50 A A' → kD mk S' I' A' → Q (.inr n, hS (n + 1) (u + 6) I' A' J B mk sn L xs (va_up X n (.inr (9, []))))) (kr : apS S 3 f cn N p q (nmb N l) = none → ∀ I' A', Fr [14] I I' → Fr [3, 20] A A' → Q (.inr n, hS (n + 1) (u + 6) I' A' J B mk sn L xs (va_up X n (.inr (11, []))))) : mq 63 0 [some (.ref 1), some (.ref 28), some (.ref 53), none, none, none] [] (hS n u I A J B mk sn L xs X) Q := by
  by_cases hfit : 0 < cn ∧ mB (dD S) (f (cn - 1)) + (eBt (nI (bB (dD S) (f (cn - 1)))) p q (nmb N l)).length ≤ 128
  · have e : apS S 3 f cn N p q (nmb N l) = some (_, f, cn) := if_pos hfit
    refine k_63a_3_2 hD ho hmk hn hu hcn hc hf hsl hN hNb hB hl1 hl4 hfit.1 hfit.2 (fun o1 I1 A1 f1 g1 h1 n1 b1 => ?_) (fun o1 I1 A1 f1 g1 h1 => kx _ _ _ e o1 I1 A1 f1 g1 h1)
    exact kk _ _ _ e o1 I1 A1 (Fr_cons (Fr_refl _ I) f1 (by decide)) (Fr_cons (Fr_refl _ A) g1 (by decide)) h1 n1 b1 ((f1 49 (by decide)).trans hc) (fun j hj => by rw [g1 42 (by decide)]; exact hsl j hj)
  · have hnf : cn = 0 ∨ 128 < mB (dD S) (f (cn - 1)) + (eBt (nI (bB (dD S) (f (cn - 1)))) p q (nmb N l)).length := by
      by_cases h0 : cn = 0
      · exact Or.inl h0
      · exact Or.inr (Nat.lt_of_not_le (fun q => hfit ⟨Nat.pos_of_ne_zero h0, q⟩))
    by_cases hfr : frS (dD S) 16 0 = -1
    · have e : apS S 3 f cn N p q (nmb N l) = none := (if_neg hfit).trans (if_pos hfr)
      exact k_63c_3_2 hD ho hmk hn hu hcn hc hf hsl hN hNb hB hl1 hl4 hnf hfr (fun I1 A1 f1 g1 => kr e I1 A1 f1 g1)
    · have e : apS S 3 f cn N p q (nmb N l) = some (_, _, cn + 1) := (if_neg hfit).trans (if_neg hfr)
      rcases frN_spec (dD S) 16 0 with h5 | h5
      · exact absurd h5.1 hfr
      · have hc16 : cn < 16 := by
          rcases hroom with h6 | h6
          · exact absurd h6 hfr
          · exact h6
        refine k_63b_3_2 hD ho hmk hn hu hcn hc hf hsl hN hNb hB hl1 hl4 hnf (by omega) h5.1 hc16 (fun o1 I1 A1 f1 g1 h1 n1 b1 c1 d1 => ?_) (fun o1 I1 A1 f1 g1 h1 => kx _ _ _ e o1 I1 A1 f1 g1 h1)
        refine kk _ _ _ e o1 I1 A1 f1 g1 h1 n1 b1 c1 (fun j hj => ?_)
        rw [d1]
        by_cases h7 : j = cn
        · rw [h7, pk_us, if_pos rfl]
        · rw [pk_un h7, if_neg h7]
          exact hsl j (by omega)
set_option maxRecDepth 100000 in
set_option maxHeartbeats 4000000 in
theorem k_63a_3_3 {cn N : Nat} {f : Nat → Nat} {l : List R5} {p q : Int32} {S : DS} (hD : kD mk S I A) (ho : dO S = false) (hmk : mks mk sn) (hn : 77 ≤ n ∧ n < 10000) (hu : u + 6 < 1000000) (hcn : cn ≤ 16) (hc : I 49 = nI cn) (hf : ∀ k, k < cn → f k < 16) (hsl : ∀ j, j < cn → A 42 j = nI (f j)) (hN : I 51 = nI N) (hNb : N + 4 < 2 ^ 31) (hB : BT 3 I A l p q) (hl1 : 1 ≤ l.length) (hl4 : l.length ≤ 4) (hp : 0 < cn) (hfit : mB (dD S) (f (cn - 1)) + (eBt (nI (bB (dD S) (f (cn - 1)))) p q (nmb N l)).length ≤ 128) {Q : mO × mHp → Prop} (kk : dO (wrs S (apW (f (cn - 1)) (mB (dD S) (f (cn - 1))) (eBt (nI (bB (dD S) (f (cn - 1)))) p q (nmb N l)))) = false → ∀ I' A', Fr [2, 3, 14, 15, 51] I I' → Fr [0, 3, 4, 25] A A' → kD mk (wrs S (apW (f (cn - 1)) (mB (dD S) (f (cn - 1))) (eBt (nI (bB (dD S) (f (cn - 1)))) p q (nmb N l)))) I' A' → I' 51 = nI (N + l.length) → BT 3 I' A' (nmb N l) p q → Q (.inl (some (.int (nI N))), hS n u I' A' J B mk sn L xs X)) (kx : dO (wrs S (apW (f (cn - 1)) (mB (dD S) (f (cn - 1))) (eBt (nI (bB (dD S) (f (cn - 1)))) p q (nmb N l)))) = true → ∀ I' A', Up 60 I I' → Up 50 A A' → kD mk (wrs S (apW (f (cn - 1)) (mB (dD S) (f (cn - 1))) (eBt (nI (bB (dD S) (f (cn - 1)))) p q (nmb N l)))) I' A' → Q (.inr n, hS (n + 1) (u + 6) I' A' J B mk sn L xs (va_up X n (.inr (9, []))))) : mq 63 0 [some (.ref 1), some (.ref 28), some (.ref 60), none, none, none] [] (hS n u I A J B mk sn L xs X) Q := by
  obtain ⟨t, ht⟩ : ∃ x, x = eBt (nI (bB (dD S) (f (cn - 1)))) p q (nmb N l) := ⟨_, rfl⟩
  rw [← ht] at hfit kk kx
  have htb : ∀ i, gB0 t i < 256 := by
    rw [ht]
    exact gB0_by (eBt_by _ _ _ _)
  refine x_al1 (pc := 0) rfl rfl ?_
  refine g_28_7 (pc := 1) (v := nI N) rfl rfl hN ?_
  refine x_is1 (pc := 4) (ml' := [some (.ref 1), some (.ref 28), some (.ref 60), some (.int (nI N)), none, none]) rfl rfl ?_
  refine x_al1 (pc := 5) rfl rfl ?_
  refine g_60_0 (pc := 6) rfl rfl ?_
  refine x_il1 (pc := 9) rfl rfl ?_
  refine x_k (pc := 10) rfl rfl rfl ⟨Nat.le_of_ble_eq_true rfl, Nat.le_of_ble_eq_true rfl, Nat.le_of_ble_eq_true rfl⟩ rfl (k_64_3 (I := I) (A := A) (N := N) (l := l) hB hl4 (fun A1 g1 hB1 => ?_))
  show mq 63 13 [some (.ref 1), some (.ref 28), some (.ref 60), some (.int (nI N)), none, none] [] (hS n u I A1 J B mk sn L xs X) _
  refine x_al1 (pc := 13) rfl rfl ?_
  refine x_al1 (pc := 14) rfl rfl ?_
  refine x_al1 (pc := 15) rfl rfl ?_
  refine x_k (pc := 16) rfl rfl rfl ⟨Nat.le_of_ble_eq_true rfl, Nat.le_of_ble_eq_true rfl, Nat.le_of_ble_eq_true rfl⟩ rfl (k_65a_3_3 (I := I) (A := A1) (l := nmb N l) (kD_on hD ho (Fr_refl [] I) g1 (by decide) (by decide)) ho hcn hc hf (fun j hj => by rw [g1 42 (by decide)]; exact hsl j hj) hN hNb hB1 (by rw [nmb_len]; exact hl1) (by rw [nmb_len]; exact hl4) hp (by rw [← ht]; exact hfit) (fun I2 A2 f2 g2 => ?_))
  show mq 63 19 [some (.ref 1), some (.ref 28), some (.ref 60), some (.int (nI N)), none, none] [.int (nI (f (cn - 1)))] (hS n u I2 A2 J B mk sn L xs X) _
  refine x_is2 (pc := 19) (ml' := [some (.ref 1), some (.ref 28), some (.ref 60), some (.int (nI N)), some (.int (nI (f (cn - 1)))), none]) rfl rfl ?_
  refine x_il2 (pc := 21) rfl rfl ?_
  refine x_ifN_ge (pc := 23) (t := 37) rfl rfl (by have := hf (cn - 1) (by omega); omega) ?_
  have kq := kD_on (kD_on hD ho (Fr_refl [] I) g1 (by decide) (by decide)) ho f2 g2 (by decide) (by decide)
  have oq := ho
  have bq := BT_fr2 hB1 f2 g2 (by decide) (by decide)
  have hmb := mB_lt hD.2.1.2.1 (f (cn - 1))
  have hfit8 : mB (dD S) (f (cn - 1)) + t.length ≤ 128 := hfit
  have ev : wrs S (apW (f (cn - 1)) (mB (dD S) (f (cn - 1))) (t)) = wr1 (wrs S (spW (f (cn - 1)) (mB (dD S) (f (cn - 1))) (mB (dD S) (f (cn - 1)) + (t).length) (t) 4 (mB (dD S) (f (cn - 1))))) (mkW (f (cn - 1)) (mB (dD S) (f (cn - 1)) + (t).length)) := by
    unfold apW
    rw [wrs_app]
    rfl
  refine x_al1 (pc := 37) rfl rfl ?_
  refine g_1_0 (pc := 38) rfl rfl ?_
  refine x_il2 (pc := 41) rfl rfl ?_
  refine x_k (pc := 43) rfl rfl rfl ⟨Nat.le_of_ble_eq_true rfl, Nat.le_of_ble_eq_true rfl, Nat.le_of_ble_eq_true rfl⟩ rfl (mq_k (c_37 (I := I2) (A := A2) (D := dD (S)) (kq).2.1 (hf _ (by omega))) ?_)
  show mq 63 46 [some (.ref 1), some (.ref 28), some (.ref 60), some (.int (nI N)), some (.int (nI (f (cn - 1)))), none] [.int (nI (mB (dD (S)) (f (cn - 1))))] (hS n u I2 A2 J B mk sn L xs X) _
  refine x_is2 (pc := 46) (ml' := [some (.ref 1), some (.ref 28), some (.ref 60), some (.int (nI N)), some (.int (nI (f (cn - 1)))), some (.int (nI (mB (dD (S)) (f (cn - 1)))))]) rfl rfl ?_
  refine x_al1 (pc := 48) rfl rfl ?_
  refine x_il2 (pc := 49) rfl rfl ?_
  refine x_al1 (pc := 51) rfl rfl ?_
  refine x_k (pc := 52) rfl rfl rfl ⟨Nat.le_of_ble_eq_true rfl, Nat.le_of_ble_eq_true rfl, Nat.le_of_ble_eq_true rfl⟩ rfl (k_66_3 (I := I2) (A := A2) (D := dD (S)) (l := nmb N l) (p := p) (q := q) (kq).2.1 (hf _ (by omega)) (by rw [nmb_len]; exact hl1) (by rw [nmb_len]; exact hl4) bq (fun I6 A6 f6 g6 h6 => ?_))
  show mq 63 55 [some (.ref 1), some (.ref 28), some (.ref 60), some (.int (nI N)), some (.int (nI (f (cn - 1)))), some (.int (nI (mB (dD (S)) (f (cn - 1)))))] [] (hS n u I6 A6 J B mk sn L xs X) _
  rw [← ht] at h6
  have F6 : Fr [2, 3, 14, 15, 51] I I6 := (Fr_cons (Fr_cons (Fr_refl _ _) f2 (by decide)) f6 (by decide))
  have G6 : Fr [0, 3, 4, 25] A A6 := (Fr_cons (Fr_cons (Fr_cons (Fr_refl _ _) g1 (by decide)) g2 (by decide)) g6 (by decide))
  refine x_al1 (pc := 55) rfl rfl ?_
  refine x_il2 (pc := 56) rfl rfl ?_
  refine x_il2 (pc := 58) rfl rfl ?_
  refine x_k (pc := 60) rfl rfl rfl ⟨Nat.le_of_ble_eq_true rfl, Nat.le_of_ble_eq_true rfl, Nat.le_of_ble_eq_true rfl⟩ rfl (k_73 (I := I6) (A := A6) (S := S) (s := f (cn - 1)) (m := mB (dD S) (f (cn - 1))) (t := t) (hf _ (by omega)) htb hfit8 h6 (kD_on kq oq f6 g6 (by decide) (by decide)) oq hmk hn hu (fun o7 I7 A7 f7 g7 h7 => ?_) (fun o7 I7 A7 f7 g7 h7 => mK_x rfl (kx (by rw [ev, wr1_off _ o7]; exact o7) I7 A7 (Up_tr (Up_fr F6 (by decide)) f7) (Up_tr (Up_fr G6 (by decide)) g7) (by rw [ev, wr1_off _ o7]; exact h7))))
  show mq 63 63 [some (.ref 1), some (.ref 28), some (.ref 60), some (.int (nI N)), some (.int (nI (f (cn - 1)))), some (.int (nI (mB (dD (S)) (f (cn - 1)))))] [] (hS n u I7 A7 J B mk sn L xs X) _
  refine x_al1 (pc := 63) rfl rfl ?_
  refine x_il2 (pc := 64) rfl rfl ?_
  refine x_il2 (pc := 66) rfl rfl ?_
  refine x_al1 (pc := 68) rfl rfl ?_
  refine g_1_7 (pc := 69) rfl rfl ?_
  refine g_49_1 (pc := 72) (v := nI ((t).length)) rfl rfl ((f7 14 (by decide)).trans h6.1) ?_
  refine x_iaddN (pc := 75) (c := (mB (dD (S)) (f (cn - 1))) + ((t).length)) rfl rfl ?_
  refine x_k (pc := 76) rfl rfl rfl ⟨Nat.le_of_ble_eq_true rfl, Nat.le_of_ble_eq_true rfl, Nat.le_of_ble_eq_true rfl⟩ rfl (k_74 (I := I7) (A := A7) (s := f (cn - 1)) (v := (mB (dD S) (f (cn - 1))) + (t).length) (S := wrs (S) (spW (f (cn - 1)) (mB (dD S) (f (cn - 1))) ((mB (dD S) (f (cn - 1))) + (t).length) (t) 4 (mB (dD S) (f (cn - 1))))) (hf _ (by omega)) (by omega) h7 o7 hmk hn hu (fun o8 I8 A8 f8 g8 h8 => ?_) (fun o8 I8 A8 f8 g8 h8 => mK_x rfl (kx (by rw [ev]; exact o8) I8 A8 (Up_tr (Up_fr F6 (by decide)) (Up_tr (Up_fr f7 (by decide)) f8)) (Up_tr (Up_fr G6 (by decide)) (Up_tr (Up_fr g7 (by decide)) g8)) (by rw [ev]; exact h8))))
  show mq 63 79 [some (.ref 1), some (.ref 28), some (.ref 60), some (.int (nI N)), some (.int (nI (f (cn - 1)))), some (.int (nI (mB (dD (S)) (f (cn - 1)))))] [] (hS n u I8 A8 J B mk sn L xs X) _
  refine x_al1 (pc := 79) rfl rfl ?_
  refine x_il1 (pc := 80) rfl rfl ?_
  refine x_al1 (pc := 81) rfl rfl ?_
  refine g_60_0 (pc := 82) rfl rfl ?_
  refine g_61_5 (pc := 85) (v := nI l.length) rfl rfl ((f8 31 (by decide)).trans ((f7 31 (by decide)).trans ((f6 31 (by decide)).trans ((f2 31 (by decide)).trans hB.2.2.1)))) ?_
  refine x_iaddN (pc := 88) (c := N + l.length) rfl rfl ?_
  refine p_28_7 (pc := 89) rfl rfl ?_
  refine x_il1 (pc := 92) rfl rfl ?_
  refine x_ret (pc := 93) rfl rfl ?_
  exact kk (by rw [ev]; exact o8) _ _ (Fr_u (Fr_cons (Fr_cons (Fr_cons (Fr_cons (Fr_refl _ _) f2 (by decide)) f6 (by decide)) f7 (by decide)) f8 (by decide)) (by decide)) (Fr_cons (Fr_cons (Fr_cons (Fr_cons (Fr_cons (Fr_refl _ _) g1 (by decide)) g2 (by decide)) g6 (by decide)) g7 (by decide)) g8 (by decide)) (kD_on (by rw [ev]; exact h8) (by rw [ev]; exact o8) (Fr_up I8 51 _) (Fr_refl [] A8) (by decide) (by decide)) rfl (BT_fr2 (BT_fr2 (BT_fr2 (BT_fr2 bq f6 g6 (by decide) (by decide)) f7 g7 (by decide) (by decide)) f8 g8 (by decide) (by decide)) (Fr_up I8 51 _) (Fr_refl [] A8) (by decide) (by decide))
set_option maxRecDepth 100000 in
set_option maxHeartbeats 4000000 in
theorem k_63b_3_3 {cn N : Nat} {f : Nat → Nat} {l : List R5} {p q : Int32} {S : DS} (hD : kD mk S I A) (ho : dO S = false) (hmk : mks mk sn) (hn : 77 ≤ n ∧ n < 10000) (hu : u + 6 < 1000000) (hcn : cn ≤ 16) (hc : I 49 = nI cn) (hf : ∀ k, k < cn → f k < 16) (hsl : ∀ j, j < cn → A 42 j = nI (f j)) (hN : I 51 = nI N) (hNb : N + 4 < 2 ^ 31) (hB : BT 3 I A l p q) (hl1 : 1 ≤ l.length) (hl4 : l.length ≤ 4) (hnf : cn = 0 ∨ 128 < mB (dD S) (f (cn - 1)) + (eBt (nI (bB (dD S) (f (cn - 1)))) p q (nmb N l)).length) {s : Nat} (hs : s < 16) (hfr : frS (dD S) 16 0 = nI s) (hc16 : cn < 16) {Q : mO × mHp → Prop} (kk : dO (wrs S (hdW s 3 N :: apW s 8 (eBt (nI N) p q (nmb N l)))) = false → ∀ I' A', Fr [2, 3, 14, 15, 49, 51] I I' → Fr [0, 3, 4, 42, 25] A A' → kD mk (wrs S (hdW s 3 N :: apW s 8 (eBt (nI N) p q (nmb N l)))) I' A' → I' 51 = nI (N + l.length) → BT 3 I' A' (nmb N l) p q → I' 49 = nI (cn + 1) → A' 42 = upd (A 42) cn (nI s) → Q (.inl (some (.int (nI N))), hS n u I' A' J B mk sn L xs X)) (kx : dO (wrs S (hdW s 3 N :: apW s 8 (eBt (nI N) p q (nmb N l)))) = true → ∀ I' A', Up 60 I I' → Up 50 A A' → kD mk (wrs S (hdW s 3 N :: apW s 8 (eBt (nI N) p q (nmb N l)))) I' A' → Q (.inr n, hS (n + 1) (u + 6) I' A' J B mk sn L xs (va_up X n (.inr (9, []))))) : mq 63 0 [some (.ref 1), some (.ref 28), some (.ref 60), none, none, none] [] (hS n u I A J B mk sn L xs X) Q := by
  have hel := eBt_len (nI N) p q (nmb N l)
  rw [nmb_len] at hel
  obtain ⟨t, ht⟩ : ∃ x, x = eBt (nI N) p q (nmb N l) := ⟨_, rfl⟩
  rw [← ht] at kk kx hel
  have htb : ∀ i, gB0 t i < 256 := by
    rw [ht]
    exact gB0_by (eBt_by _ _ _ _)
  have ev : wrs S (hdW s 3 N :: apW s 8 (t)) = wr1 (wrs (wr1 S (hdW s 3 N)) (spW s 8 (8 + (t).length) (t) 4 8)) (mkW s (8 + (t).length)) := by
    show wrs (wr1 S (hdW s 3 N)) (apW s 8 t) = _
    unfold apW
    rw [wrs_app]
    rfl
  refine x_al1 (pc := 0) rfl rfl ?_
  refine g_28_7 (pc := 1) (v := nI N) rfl rfl hN ?_
  refine x_is1 (pc := 4) (ml' := [some (.ref 1), some (.ref 28), some (.ref 60), some (.int (nI N)), none, none]) rfl rfl ?_
  refine x_al1 (pc := 5) rfl rfl ?_
  refine g_60_0 (pc := 6) rfl rfl ?_
  refine x_il1 (pc := 9) rfl rfl ?_
  refine x_k (pc := 10) rfl rfl rfl ⟨Nat.le_of_ble_eq_true rfl, Nat.le_of_ble_eq_true rfl, Nat.le_of_ble_eq_true rfl⟩ rfl (k_64_3 (I := I) (A := A) (N := N) (l := l) hB hl4 (fun A1 g1 hB1 => ?_))
  show mq 63 13 [some (.ref 1), some (.ref 28), some (.ref 60), some (.int (nI N)), none, none] [] (hS n u I A1 J B mk sn L xs X) _
  refine x_al1 (pc := 13) rfl rfl ?_
  refine x_al1 (pc := 14) rfl rfl ?_
  refine x_al1 (pc := 15) rfl rfl ?_
  refine x_k (pc := 16) rfl rfl rfl ⟨Nat.le_of_ble_eq_true rfl, Nat.le_of_ble_eq_true rfl, Nat.le_of_ble_eq_true rfl⟩ rfl (k_65b_3_3 (I := I) (A := A1) (l := nmb N l) (kD_on hD ho (Fr_refl [] I) g1 (by decide) (by decide)) ho hcn hc hf (fun j hj => by rw [g1 42 (by decide)]; exact hsl j hj) hN hNb hB1 (by rw [nmb_len]; exact hl1) (by rw [nmb_len]; exact hl4) hnf hs hfr hc16 hmk hn hu (fun o2 I2 A2 f2 g2 h2 c2 d2 => ?_) (fun o2 I2 A2 f2 g2 h2 => mK_x rfl (kx (by rw [ev, wr1_off _ (by rw [wrs_off _ o2]; exact o2), wrs_off _ o2]; exact o2) I2 A2 f2 (Up_tr (Up_fr g1 (by decide)) g2) (by rw [ev, wr1_off _ (by rw [wrs_off _ o2]; exact o2), wrs_off _ o2]; exact h2))))
  show mq 63 19 [some (.ref 1), some (.ref 28), some (.ref 60), some (.int (nI N)), none, none] [.int (nI s)] (hS n u I2 A2 J B mk sn L xs X) _
  refine x_is2 (pc := 19) (ml' := [some (.ref 1), some (.ref 28), some (.ref 60), some (.int (nI N)), some (.int (nI s)), none]) rfl rfl ?_
  refine x_il2 (pc := 21) rfl rfl ?_
  refine x_ifN_ge (pc := 23) (t := 37) rfl rfl (by omega) ?_
  have kq := h2
  have oq := o2
  have bq := BT_fr2 hB1 f2 g2 (by decide) (by decide)
  have hb8 := hd_D o2 (by omega)
  have hfit8 : 8 + t.length ≤ 128 := by omega
  refine x_al1 (pc := 37) rfl rfl ?_
  refine g_1_0 (pc := 38) rfl rfl ?_
  refine x_il2 (pc := 41) rfl rfl ?_
  refine x_k (pc := 43) rfl rfl rfl ⟨Nat.le_of_ble_eq_true rfl, Nat.le_of_ble_eq_true rfl, Nat.le_of_ble_eq_true rfl⟩ rfl (mq_k (c_37 (I := I2) (A := A2) (D := dD (wr1 S (hdW s 3 N))) (kq).2.1 hs) ?_)
  show mq 63 46 [some (.ref 1), some (.ref 28), some (.ref 60), some (.int (nI N)), some (.int (nI s)), none] [.int (nI (mB (dD (wr1 S (hdW s 3 N))) s))] (hS n u I2 A2 J B mk sn L xs X) _
  refine x_top (y := nI 8) (congrArg nI hb8.1) ?_
  refine x_is2 (pc := 46) (ml' := [some (.ref 1), some (.ref 28), some (.ref 60), some (.int (nI N)), some (.int (nI s)), some (.int (nI 8))]) rfl rfl ?_
  refine x_al1 (pc := 48) rfl rfl ?_
  refine x_il2 (pc := 49) rfl rfl ?_
  refine x_al1 (pc := 51) rfl rfl ?_
  refine x_k (pc := 52) rfl rfl rfl ⟨Nat.le_of_ble_eq_true rfl, Nat.le_of_ble_eq_true rfl, Nat.le_of_ble_eq_true rfl⟩ rfl (k_66_3 (I := I2) (A := A2) (D := dD (wr1 S (hdW s 3 N))) (l := nmb N l) (p := p) (q := q) (kq).2.1 hs (by rw [nmb_len]; exact hl1) (by rw [nmb_len]; exact hl4) bq (fun I6 A6 f6 g6 h6 => ?_))
  show mq 63 55 [some (.ref 1), some (.ref 28), some (.ref 60), some (.int (nI N)), some (.int (nI s)), some (.int (nI 8))] [] (hS n u I6 A6 J B mk sn L xs X) _
  rw [hb8.2, ← ht] at h6
  have F6 : Fr [2, 3, 14, 15, 49, 51] I I6 := (Fr_cons (Fr_cons (Fr_refl _ _) f2 (by decide)) f6 (by decide))
  have G6 : Fr [0, 3, 4, 42, 25] A A6 := (Fr_cons (Fr_cons (Fr_cons (Fr_refl _ _) g1 (by decide)) g2 (by decide)) g6 (by decide))
  refine x_al1 (pc := 55) rfl rfl ?_
  refine x_il2 (pc := 56) rfl rfl ?_
  refine x_il2 (pc := 58) rfl rfl ?_
  refine x_k (pc := 60) rfl rfl rfl ⟨Nat.le_of_ble_eq_true rfl, Nat.le_of_ble_eq_true rfl, Nat.le_of_ble_eq_true rfl⟩ rfl (k_73 (I := I6) (A := A6) (S := wr1 S (hdW s 3 N)) (s := s) (m := 8) (t := t) hs htb hfit8 h6 (kD_on kq oq f6 g6 (by decide) (by decide)) oq hmk hn hu (fun o7 I7 A7 f7 g7 h7 => ?_) (fun o7 I7 A7 f7 g7 h7 => mK_x rfl (kx (by rw [ev, wr1_off _ o7]; exact o7) I7 A7 (Up_tr (Up_fr F6 (by decide)) f7) (Up_tr (Up_fr G6 (by decide)) g7) (by rw [ev, wr1_off _ o7]; exact h7))))
  show mq 63 63 [some (.ref 1), some (.ref 28), some (.ref 60), some (.int (nI N)), some (.int (nI s)), some (.int (nI 8))] [] (hS n u I7 A7 J B mk sn L xs X) _
  refine x_al1 (pc := 63) rfl rfl ?_
  refine x_il2 (pc := 64) rfl rfl ?_
  refine x_il2 (pc := 66) rfl rfl ?_
  refine x_al1 (pc := 68) rfl rfl ?_
  refine g_1_7 (pc := 69) rfl rfl ?_
  refine g_49_1 (pc := 72) (v := nI ((t).length)) rfl rfl ((f7 14 (by decide)).trans h6.1) ?_
  refine x_iaddN (pc := 75) (c := 8 + ((t).length)) rfl rfl ?_
  refine x_k (pc := 76) rfl rfl rfl ⟨Nat.le_of_ble_eq_true rfl, Nat.le_of_ble_eq_true rfl, Nat.le_of_ble_eq_true rfl⟩ rfl (k_74 (I := I7) (A := A7) (s := s) (v := 8 + (t).length) (S := wrs (wr1 S (hdW s 3 N)) (spW s 8 (8 + (t).length) (t) 4 8)) hs (by omega) h7 o7 hmk hn hu (fun o8 I8 A8 f8 g8 h8 => ?_) (fun o8 I8 A8 f8 g8 h8 => mK_x rfl (kx (by rw [ev]; exact o8) I8 A8 (Up_tr (Up_fr F6 (by decide)) (Up_tr (Up_fr f7 (by decide)) f8)) (Up_tr (Up_fr G6 (by decide)) (Up_tr (Up_fr g7 (by decide)) g8)) (by rw [ev]; exact h8))))
  show mq 63 79 [some (.ref 1), some (.ref 28), some (.ref 60), some (.int (nI N)), some (.int (nI s)), some (.int (nI 8))] [] (hS n u I8 A8 J B mk sn L xs X) _
  refine x_al1 (pc := 79) rfl rfl ?_
  refine x_il1 (pc := 80) rfl rfl ?_
  refine x_al1 (pc := 81) rfl rfl ?_
  refine g_60_0 (pc := 82) rfl rfl ?_
  refine g_61_5 (pc := 85) (v := nI l.length) rfl rfl ((f8 31 (by decide)).trans ((f7 31 (by decide)).trans ((f6 31 (by decide)).trans ((f2 31 (by decide)).trans hB.2.2.1)))) ?_
  refine x_iaddN (pc := 88) (c := N + l.length) rfl rfl ?_
  refine p_28_7 (pc := 89) rfl rfl ?_
  refine x_il1 (pc := 92) rfl rfl ?_
  refine x_ret (pc := 93) rfl rfl ?_
  exact kk (by rw [ev]; exact o8) _ _ (Fr_u (Fr_cons (Fr_cons (Fr_cons (Fr_cons (Fr_refl _ _) f2 (by decide)) f6 (by decide)) f7 (by decide)) f8 (by decide)) (by decide)) (Fr_cons (Fr_cons (Fr_cons (Fr_cons (Fr_cons (Fr_refl _ _) g1 (by decide)) g2 (by decide)) g6 (by decide)) g7 (by decide)) g8 (by decide)) (kD_on (by rw [ev]; exact h8) (by rw [ev]; exact o8) (Fr_up I8 51 _) (Fr_refl [] A8) (by decide) (by decide)) rfl (BT_fr2 (BT_fr2 (BT_fr2 (BT_fr2 bq f6 g6 (by decide) (by decide)) f7 g7 (by decide) (by decide)) f8 g8 (by decide) (by decide)) (Fr_up I8 51 _) (Fr_refl [] A8) (by decide) (by decide)) ((f8 49 (by decide)).trans ((f7 49 (by decide)).trans ((f6 49 (by decide)).trans c2))) (by rw [g8 42 (by decide), g7 42 (by decide), g6 42 (by decide), d2, g1 42 (by decide)])
set_option maxRecDepth 100000 in
set_option maxHeartbeats 4000000 in
theorem k_63c_3_3 {cn N : Nat} {f : Nat → Nat} {l : List R5} {p q : Int32} {S : DS} (hD : kD mk S I A) (ho : dO S = false) (hmk : mks mk sn) (hn : 77 ≤ n ∧ n < 10000) (hu : u + 6 < 1000000) (hcn : cn ≤ 16) (hc : I 49 = nI cn) (hf : ∀ k, k < cn → f k < 16) (hsl : ∀ j, j < cn → A 42 j = nI (f j)) (hN : I 51 = nI N) (hNb : N + 4 < 2 ^ 31) (hB : BT 3 I A l p q) (hl1 : 1 ≤ l.length) (hl4 : l.length ≤ 4) (hnf : cn = 0 ∨ 128 < mB (dD S) (f (cn - 1)) + (eBt (nI (bB (dD S) (f (cn - 1)))) p q (nmb N l)).length) (hfr : frS (dD S) 16 0 = -1) {Q : mO × mHp → Prop} (kr : ∀ I' A', Fr [14] I I' → Fr [3, 25] A A' → Q (.inr n, hS (n + 1) (u + 6) I' A' J B mk sn L xs (va_up X n (.inr (11, []))))) : mq 63 0 [some (.ref 1), some (.ref 28), some (.ref 60), none, none, none] [] (hS n u I A J B mk sn L xs X) Q := by
  refine x_al1 (pc := 0) rfl rfl ?_
  refine g_28_7 (pc := 1) (v := nI N) rfl rfl hN ?_
  refine x_is1 (pc := 4) (ml' := [some (.ref 1), some (.ref 28), some (.ref 60), some (.int (nI N)), none, none]) rfl rfl ?_
  refine x_al1 (pc := 5) rfl rfl ?_
  refine g_60_0 (pc := 6) rfl rfl ?_
  refine x_il1 (pc := 9) rfl rfl ?_
  refine x_k (pc := 10) rfl rfl rfl ⟨Nat.le_of_ble_eq_true rfl, Nat.le_of_ble_eq_true rfl, Nat.le_of_ble_eq_true rfl⟩ rfl (k_64_3 (I := I) (A := A) (N := N) (l := l) hB hl4 (fun A1 g1 hB1 => ?_))
  show mq 63 13 [some (.ref 1), some (.ref 28), some (.ref 60), some (.int (nI N)), none, none] [] (hS n u I A1 J B mk sn L xs X) _
  refine x_al1 (pc := 13) rfl rfl ?_
  refine x_al1 (pc := 14) rfl rfl ?_
  refine x_al1 (pc := 15) rfl rfl ?_
  refine x_k (pc := 16) rfl rfl rfl ⟨Nat.le_of_ble_eq_true rfl, Nat.le_of_ble_eq_true rfl, Nat.le_of_ble_eq_true rfl⟩ rfl (k_65c_3_3 (I := I) (A := A1) (l := nmb N l) (kD_on hD ho (Fr_refl [] I) g1 (by decide) (by decide)) ho hcn hc hf (fun j hj => by rw [g1 42 (by decide)]; exact hsl j hj) hN hNb hB1 (by rw [nmb_len]; exact hl1) (by rw [nmb_len]; exact hl4) hnf hfr (fun I2 A2 f2 g2 => ?_))
  show mq 63 19 [some (.ref 1), some (.ref 28), some (.ref 60), some (.int (nI N)), none, none] [.int (-1)] (hS n u I2 A2 J B mk sn L xs X) _
  refine x_is2 (pc := 19) (ml' := [some (.ref 1), some (.ref 28), some (.ref 60), some (.int (nI N)), some (.int (-1)), none]) rfl rfl ?_
  refine x_il2 (pc := 21) rfl rfl ?_
  refine x_if_ge (pc := 23) (t := 37) rfl rfl rfl (fun c => absurd c (by decide)) (fun _ => ?_)
  refine x_thr (pc := 26) rfl rfl hn hu rfl ⟨Nat.le_of_ble_eq_true rfl, Nat.le_of_ble_eq_true rfl⟩ ?_
  exact kr _ _ (Fr_cons (Fr_refl _ _) f2 (by decide)) (Fr_cons (Fr_cons (Fr_refl _ _) g1 (by decide)) g2 (by decide))
set_option maxRecDepth 100000 in
set_option maxHeartbeats 4000000 in
theorem k_63_3_3 {cn N : Nat} {f : Nat → Nat} {l : List R5} {p q : Int32} {S : DS} (hD : kD mk S I A) (ho : dO S = false) (hmk : mks mk sn) (hn : 77 ≤ n ∧ n < 10000) (hu : u + 6 < 1000000) (hcn : cn ≤ 16) (hc : I 49 = nI cn) (hf : ∀ k, k < cn → f k < 16) (hsl : ∀ j, j < cn → A 42 j = nI (f j)) (hN : I 51 = nI N) (hNb : N + 4 < 2 ^ 31) (hB : BT 3 I A l p q) (hl1 : 1 ≤ l.length) (hl4 : l.length ≤ 4) (hroom : frS (dD S) 16 0 = -1 ∨ cn < 16) {Q : mO × mHp → Prop} (kk : ∀ S' f' cn', apS S 3 f cn N p q (nmb N l) = some (S', f', cn') → dO S' = false → ∀ I' A', Fr [2, 3, 14, 15, 49, 51] I I' → Fr [0, 3, 4, 42, 25] A A' → kD mk S' I' A' → I' 51 = nI (N + l.length) → BT 3 I' A' (nmb N l) p q → I' 49 = nI cn' → (∀ j, j < cn' → A' 42 j = nI (f' j)) → Q (.inl (some (.int (nI N))), hS n u I' A' J B mk sn L xs X)) (kx : ∀ S' f' cn', apS S 3 f cn N p q (nmb N l) = some (S', f', cn') → dO S' = true → ∀ I' A', Up 60 I I' → Up 50 A A' → kD mk S' I' A' → Q (.inr n, hS (n + 1) (u + 6) I' A' J B mk sn L xs (va_up X n (.inr (9, []))))) (kr : apS S 3 f cn N p q (nmb N l) = none → ∀ I' A', Fr [14] I I' → Fr [3, 25] A A' → Q (.inr n, hS (n + 1) (u + 6) I' A' J B mk sn L xs (va_up X n (.inr (11, []))))) : mq 63 0 [some (.ref 1), some (.ref 28), some (.ref 60), none, none, none] [] (hS n u I A J B mk sn L xs X) Q := by
  by_cases hfit : 0 < cn ∧ mB (dD S) (f (cn - 1)) + (eBt (nI (bB (dD S) (f (cn - 1)))) p q (nmb N l)).length ≤ 128
  · have e : apS S 3 f cn N p q (nmb N l) = some (_, f, cn) := if_pos hfit
    refine k_63a_3_3 hD ho hmk hn hu hcn hc hf hsl hN hNb hB hl1 hl4 hfit.1 hfit.2 (fun o1 I1 A1 f1 g1 h1 n1 b1 => ?_) (fun o1 I1 A1 f1 g1 h1 => kx _ _ _ e o1 I1 A1 f1 g1 h1)
    exact kk _ _ _ e o1 I1 A1 (Fr_cons (Fr_refl _ I) f1 (by decide)) (Fr_cons (Fr_refl _ A) g1 (by decide)) h1 n1 b1 ((f1 49 (by decide)).trans hc) (fun j hj => by rw [g1 42 (by decide)]; exact hsl j hj)
  · have hnf : cn = 0 ∨ 128 < mB (dD S) (f (cn - 1)) + (eBt (nI (bB (dD S) (f (cn - 1)))) p q (nmb N l)).length := by
      by_cases h0 : cn = 0
      · exact Or.inl h0
      · exact Or.inr (Nat.lt_of_not_le (fun q => hfit ⟨Nat.pos_of_ne_zero h0, q⟩))
    by_cases hfr : frS (dD S) 16 0 = -1
    · have e : apS S 3 f cn N p q (nmb N l) = none := (if_neg hfit).trans (if_pos hfr)
      exact k_63c_3_3 hD ho hmk hn hu hcn hc hf hsl hN hNb hB hl1 hl4 hnf hfr (fun I1 A1 f1 g1 => kr e I1 A1 f1 g1)
    · have e : apS S 3 f cn N p q (nmb N l) = some (_, _, cn + 1) := (if_neg hfit).trans (if_neg hfr)
      rcases frN_spec (dD S) 16 0 with h5 | h5
      · exact absurd h5.1 hfr
      · have hc16 : cn < 16 := by
          rcases hroom with h6 | h6
          · exact absurd h6 hfr
          · exact h6
        refine k_63b_3_3 hD ho hmk hn hu hcn hc hf hsl hN hNb hB hl1 hl4 hnf (by omega) h5.1 hc16 (fun o1 I1 A1 f1 g1 h1 n1 b1 c1 d1 => ?_) (fun o1 I1 A1 f1 g1 h1 => kx _ _ _ e o1 I1 A1 f1 g1 h1)
        refine kk _ _ _ e o1 I1 A1 f1 g1 h1 n1 b1 c1 (fun j hj => ?_)
        rw [d1]
        by_cases h7 : j = cn
        · rw [h7, pk_us, if_pos rfl]
        · rw [pk_un h7, if_neg h7]
          exact hsl j (by omega)
end S54
