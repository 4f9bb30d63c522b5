/-! A write: the disk, the power, what is forgotten. -/
/-- a row of c bytes written at p -/
def dW (D : Nat → Nat) (p c : Nat) (g : Nat → Nat) : Nat → Nat := fun j => if p ≤ j ∧ j < p + c then g (j - p) else D j
theorem dW_0 (D : Nat → Nat) (p : Nat) (g : Nat → Nat) : dW D p 0 g = D := by
  funext j
  exact if_neg (by omega)
theorem dW_in {D : Nat → Nat} {p c i : Nat} {g : Nat → Nat} (h : i < c) : dW D p c g (p + i) = g i := by
  unfold dW
  rw [if_pos (by omega), Nat.add_sub_cancel_left]
theorem dW_out {D : Nat → Nat} {p c j : Nat} {g : Nat → Nat} (h : j < p ∨ p + c ≤ j) : dW D p c g j = D j := if_neg (by omega)
theorem dW_ext {D : Nat → Nat} {p c : Nat} {g g' : Nat → Nat} (h : ∀ i, i < c → g i = g' i) : dW D p c g = dW D p c g' := by
  funext j
  unfold dW
  by_cases hj : p ≤ j ∧ j < p + c
  · rw [if_pos hj, if_pos hj, h _ (by omega)]
  · rw [if_neg hj, if_neg hj]
theorem DK_put {a : Nat → Int32} {D : Nat → Nat} {p j : Nat} {g : Nat → Nat} (h : DK a (dW D p j g)) (hg : g j < 256) (hp : p + j < 2048) : DK (upd a (p + j) (nI (g j))) (dW D p (j + 1) g) := by
  have e : ∀ i, dW D p (j + 1) g i = if i = p + j then g j else dW D p j g i := by
    intro i
    unfold dW
    by_cases hi : i = p + j
    · rw [if_pos hi, if_pos (by omega), hi, Nat.add_sub_cancel_left]
    · rw [if_neg hi]
      by_cases h2 : p ≤ i ∧ i < p + j
      · rw [if_pos h2, if_pos (by omega)]
      · rw [if_neg h2, if_neg (by omega)]
  refine ⟨?_, fun i => ?_, fun i hi => ?_⟩
  · funext i
    rw [e i]
    by_cases hi : i = p + j
    · rw [if_pos hi, hi, pk_us]
    · rw [if_neg hi, pk_un hi, h.1]
  · rw [e i]
    by_cases hi : i = p + j
    · rw [if_pos hi]
      exact hg
    · rw [if_neg hi]
      exact h.2.1 i
  · rw [e i, if_neg (by omega)]
    exact h.2.2 i hi
/-- the disk, the writes until the cut (none: no cut is set), the writes that were done, whether the power is off -/
def DS : Type := (Nat → Nat) × Option Nat × Nat × Bool
def dD (S : DS) : Nat → Nat := S.1
def dC (S : DS) : Option Nat := S.2.1
def dN (S : DS) : Nat := S.2.2.1
def dO (S : DS) : Bool := S.2.2.2
def dS (D : Nat → Nat) (c : Option Nat) (w : Nat) (b : Bool) : DS := (D, c, w, b)
/-- a write -/
def WI : Type := Nat × Nat × (Nat → Nat)
def wi (p c : Nat) (g : Nat → Nat) : WI := (p, c, g)
def wr1 (S : DS) (x : WI) : DS := if dO S = true then S else if dC S = some 0 then dS (dD S) none (dN S) true else dS (dW (dD S) x.1 x.2.1 x.2.2) ((dC S).map (fun k => k - 1)) (dN S + 1) false
def wrs (S : DS) (l : List WI) : DS := l.foldl wr1 S
theorem wr1_off {S : DS} (x : WI) (h : dO S = true) : wr1 S x = S := if_pos h
theorem wr1_due {S : DS} (x : WI) (h : dO S = false) (hc : dC S = some 0) : wr1 S x = dS (dD S) none (dN S) true := by
  unfold wr1
  rw [if_neg (by rw [h]; decide), if_pos hc]
theorem wr1_on {S : DS} (x : WI) (h : dO S = false) (hc : ¬ dC S = some 0) : wr1 S x = dS (dW (dD S) x.1 x.2.1 x.2.2) ((dC S).map (fun k => k - 1)) (dN S + 1) false := by
  unfold wr1
  rw [if_neg (by rw [h]; decide), if_neg hc]
theorem wr1_ext {S : DS} {p c : Nat} {g g' : Nat → Nat} (h : ∀ i, i < c → g i = g' i) : wr1 S (wi p c g) = wr1 S (wi p c g') := by
  unfold wr1
  show (if dO S = true then S else if dC S = some 0 then dS (dD S) none (dN S) true else dS (dW (dD S) p c g) ((dC S).map (fun k => k - 1)) (dN S + 1) false) = (if dO S = true then S else if dC S = some 0 then dS (dD S) none (dN S) true else dS (dW (dD S) p c g') ((dC S).map (fun k => k - 1)) (dN S + 1) false)
  rw [dW_ext h]
theorem wrs_off : ∀ {S : DS} (l : List WI), dO S = true → wrs S l = S
  | _, [], _ => rfl
  | S, x :: t, h => by
    show wrs (wr1 S x) t = S
    rw [wr1_off x h]
    exact wrs_off t h
/-- the cut, as the class and as the model keep it -/
def Cc (I : Nat → Int32) : Option Nat → Prop
  | none => I 1 = nI 0
  | some k => I 1 = nI 1 ∧ I 2 = nI k ∧ k < 2 ^ 31
def Cm (I : Nat → Int32) : Option Nat → Prop
  | none => I 63 = -1
  | some k => I 63 = nI k ∧ k < 2 ^ 31
/-- all is forgotten -/
def fgK (mk : Nat) (I : Nat → Int32) (A : Nat → Nat → Int32) : Prop := I (cb mk) = nI 0 ∧ I 16 = nI 0 ∧ I 11 = nI 0 ∧ (∀ k, k < 32 → A 1 k = -1) ∧ ∀ i, i < 4 → I (40 + 3 * i) = nI 0 ∧ I (41 + 3 * i) = nI 0 ∧ I (42 + 3 * i) = nI 0 ∧ ∀ p, p < 8 → A (32 + 4 * i) p = nI 0
def fgM (I : Nat → Int32) (A : Nat → Nat → Int32) : Prop := I 64 = nI 0 ∧ I 69 = nI 0 ∧ I 70 = nI 0 ∧ (∀ k, k < 96 → A 55 k = nI 0) ∧ ∀ k, k < 32 → A 56 k = nI 0
/-- the class's registers of the disk -/
def rgK (S : DS) (I : Nat → Int32) : Prop := I 0 = nI (if dO S = true then 0 else 1) ∧ (dO S = false → Cc I (dC S)) ∧ I 3 = nI (dN S)
def kD (mk : Nat) (S : DS) (I : Nat → Int32) (A : Nat → Nat → Int32) : Prop := rgK S I ∧ DK (A 0) (dD S) ∧ (dO S = true → fgK mk I A)
def rgM (S : DS) (I : Nat → Int32) : Prop := I 61 = nI (if dO S = true then 1 else 0) ∧ Cm I (dC S) ∧ I 62 = nI (dN S)
def mD (S : DS) (I : Nat → Int32) (A : Nat → Nat → Int32) : Prop := rgM S I ∧ DK (A 50) (dD S) ∧ (dO S = true → fgM I A)
theorem Cc_fr {S : List Nat} {I I' : Nat → Int32} (f : Fr S I I') (h1 : 1 ∉ S) (h2 : 2 ∉ S) : ∀ {c : Option Nat}, Cc I c → Cc I' c
  | none, h => (f 1 h1).trans h
  | some _, h => ⟨(f 1 h1).trans h.1, (f 2 h2).trans h.2.1, h.2.2⟩
theorem Cm_fr {S : List Nat} {I I' : Nat → Int32} (f : Fr S I I') (h1 : 63 ∉ S) : ∀ {c : Option Nat}, Cm I c → Cm I' c
  | none, h => (f 63 h1).trans h
  | some _, h => ⟨(f 63 h1).trans h.1, h.2⟩
theorem kD_on {mk : Nat} {S : DS} {I I' : Nat → Int32} {A A' : Nat → Nat → Int32} {X Y : List Nat} (h : kD mk S I A) (ho : dO S = false) (f : Fr X I I') (g : Fr Y A A') (hx : 0 ∉ X ∧ 1 ∉ X ∧ 2 ∉ X ∧ 3 ∉ X) (hy : 0 ∉ Y) : kD mk S I' A' := by
  refine ⟨⟨(f 0 hx.1).trans h.1.1, fun q => Cc_fr f hx.2.1 hx.2.2.1 (h.1.2.1 q), (f 3 hx.2.2.2).trans h.1.2.2⟩, ?_, fun q => ?_⟩
  · rw [g 0 hy]
    exact h.2.1
  · rw [ho] at q
    exact absurd q (by decide)
theorem mD_fr {S : DS} {I I' : Nat → Int32} {A A' : Nat → Nat → Int32} {X Y : List Nat} (h : mD S I A) (f : Fr X I I') (g : Fr Y A A') (hx : 61 ∉ X ∧ 62 ∉ X ∧ 63 ∉ X ∧ 64 ∉ X ∧ 69 ∉ X ∧ 70 ∉ X) (hy : 50 ∉ Y ∧ 55 ∉ Y ∧ 56 ∉ Y) : mD S I' A' := by
  refine ⟨⟨(f 61 hx.1).trans h.1.1, Cm_fr f hx.2.2.1 h.1.2.1, (f 62 hx.2.1).trans h.1.2.2⟩, ?_, fun q => ?_⟩
  · rw [g 50 hy.1]
    exact h.2.1
  · have h' := h.2.2 q
    refine ⟨(f 64 hx.2.2.2.1).trans h'.1, (f 69 hx.2.2.2.2.1).trans h'.2.1, (f 70 hx.2.2.2.2.2).trans h'.2.2.1, fun k hk => ?_, fun k hk => ?_⟩
    · rw [g 55 hy.2.1]
      exact h'.2.2.2.1 k hk
    · rw [g 56 hy.2.2]
      exact h'.2.2.2.2 k hk
/-- what lies from b on is as it was -/
def Up {α : Type} (b : Nat) (I I' : Nat → α) : Prop := ∀ r, b ≤ r → I' r = I r
theorem Up_fr {α : Type} {b : Nat} {S : List Nat} {I I' : Nat → α} (f : Fr S I I') (h : ∀ x ∈ S, x < b) : Up b I I' := fun r hr => f r (fun q => absurd (h r q) (by omega))
theorem Up_tr {α : Type} {b : Nat} {I I1 I2 : Nat → α} (h : Up b I I1) (g : Up b I1 I2) : Up b I I2 := fun r hr => (g r hr).trans (h r hr)
section S48
variable {n u : Nat} {I : Nat → Int32} {A : Nat → Nat → Int32} {J : Int64} {B : Nat → Int64} {mk sn L : Nat} {xs : Nat → Int32} {X : Nat → mC} {D : Nat → Nat} 
set_option maxRecDepth 100000 in
set_option maxHeartbeats 4000000 in
theorem k_29_n (h1 : I 1 = nI 0) {Q : mO × mHp → Prop} (kk : Q (.inl (some (.int (nI 0))), hS n u I A J B mk sn L xs X)) : mq 29 0 [some (.ref 2)] [] (hS n u I A J B mk sn L xs X) Q := by
  refine x_al1 (pc := 0) rfl rfl ?_
  refine g_2_2 (pc := 1) (v := nI 0) rfl rfl h1 ?_
  refine x_ifN_eq (pc := 4) (t := 18) rfl rfl (by decide) (fun _ => ?_) (fun c => absurd c (by decide))
  refine x_const (pc := 18) (pc' := 19) (.int (nI 0)) rfl rfl rfl rfl ?_
  refine x_ret (pc := 19) rfl rfl ?_
  exact kk
set_option maxRecDepth 100000 in
set_option maxHeartbeats 4000000 in
theorem k_29_0 (h1 : I 1 = nI 1) (h2 : I 2 = nI 0) {Q : mO × mHp → Prop} (kk : Q (.inl (some (.int (nI 1))), hS n u I A J B mk sn L xs X)) : mq 29 0 [some (.ref 2)] [] (hS n u I A J B mk sn L xs X) Q := by
  refine x_al1 (pc := 0) rfl rfl ?_
  refine g_2_2 (pc := 1) (v := nI 1) rfl rfl h1 ?_
  refine x_ifN_eq (pc := 4) (t := 18) rfl rfl (by decide) (fun c => absurd c (by decide)) (fun _ => ?_)
  refine x_al1 (pc := 7) rfl rfl ?_
  refine g_2_3 (pc := 8) (v := nI 0) rfl rfl h2 ?_
  refine x_ifN_ne (pc := 11) (t := 18) rfl rfl (by decide) (fun c => absurd c (by decide)) (fun _ => ?_)
  refine x_const (pc := 14) (pc' := 15) (.int (nI 1)) rfl rfl rfl rfl ?_
  refine x_step (pc := 15) (pc' := 19) rfl rfl rfl rfl ?_
  refine x_ret (pc := 19) rfl rfl ?_
  exact kk
set_option maxRecDepth 100000 in
set_option maxHeartbeats 4000000 in
theorem k_29_s {k : Nat} (h1 : I 1 = nI 1) (h2 : I 2 = nI (k + 1)) (hk : k + 1 < 2 ^ 31) {Q : mO × mHp → Prop} (kk : Q (.inl (some (.int (nI 0))), hS n u I A J B mk sn L xs X)) : mq 29 0 [some (.ref 2)] [] (hS n u I A J B mk sn L xs X) Q := by
  refine x_al1 (pc := 0) rfl rfl ?_
  refine g_2_2 (pc := 1) (v := nI 1) rfl rfl h1 ?_
  refine x_ifN_eq (pc := 4) (t := 18) rfl rfl (by decide) (fun c => absurd c (by decide)) (fun _ => ?_)
  refine x_al1 (pc := 7) rfl rfl ?_
  refine g_2_3 (pc := 8) (v := nI (k + 1)) rfl rfl h2 ?_
  refine x_ifN_ne (pc := 11) (t := 18) rfl rfl (by omega) (fun c11 => ?_) (fun c11 => ?_)
  · refine x_const (pc := 18) (pc' := 19) (.int (nI 0)) rfl rfl rfl rfl ?_
    refine x_ret (pc := 19) rfl rfl ?_
    exact kk
  · omega
set_option maxRecDepth 100000 in
set_option maxHeartbeats 4000000 in
theorem k_30  {Q : mO × mHp → Prop} (kk : Q (.inl none, hS n u (va_up I 0 (nI 0)) A J B mk sn L xs X)) : mq 30 0 [some (.ref 2)] [] (hS n u I A J B mk sn L xs X) Q := by
  refine x_al1 (pc := 0) rfl rfl ?_
  refine x_const (pc := 1) (pc' := 2) (.int (nI 0)) rfl rfl rfl rfl ?_
  refine p_2_1 (pc := 2) rfl rfl (by decide) ?_
  refine x_ret (pc := 5) rfl rfl ?_
  exact kk
set_option maxRecDepth 100000 in
set_option maxHeartbeats 4000000 in
theorem k_10_0  {Q : mO × mHp → Prop} (kk : ∀ I' A', Fr [40, 41, 42] I I' → Fr [32] A A' → I' 40 = nI 0 → I' 41 = nI 0 → I' 42 = nI 0 → (∀ p, p < 8 → A' 32 p = nI 0) → Q (.inl none, hS n u I' A' J B mk sn L xs X)) : mq 10 0 [some (.ref 13)] [] (hS n u I A J B mk sn L xs X) Q := by
  refine x_al1 (pc := 0) rfl rfl ?_
  refine x_const (pc := 1) (pc' := 2) (.int (nI 0)) rfl rfl rfl rfl ?_
  refine p_13_5 (pc := 2) rfl rfl ?_
  refine x_al1 (pc := 5) rfl rfl ?_
  refine x_const (pc := 6) (pc' := 7) (.int (nI 0)) rfl rfl rfl rfl ?_
  refine p_13_6 (pc := 7) rfl rfl ?_
  refine x_al1 (pc := 10) rfl rfl ?_
  refine x_const (pc := 11) (pc' := 12) (.int (nI 0)) rfl rfl rfl rfl ?_
  refine p_13_7 (pc := 12) rfl rfl ?_
  refine x_al1 (pc := 15) rfl rfl ?_
  refine g_13_3 (pc := 16) rfl rfl ?_
  refine x_const (pc := 19) (pc' := 20) (.int (nI 0)) rfl rfl rfl rfl ?_
  refine x_k (pc := 20) rfl rfl rfl ⟨Nat.le_of_ble_eq_true rfl, Nat.le_of_ble_eq_true rfl, Nat.le_of_ble_eq_true rfl⟩ rfl (k_9_16 (I := va_up (va_up (va_up I 40 (nI 0)) 41 (nI 0)) 42 (nI 0)) (A := A) (fun A1 g1 h1 => ?_))
  show mq 10 23 [some (.ref 13)] [] (hS n u (va_up (va_up (va_up I 40 (nI 0)) 41 (nI 0)) 42 (nI 0)) A1 J B mk sn L xs X) _
  refine x_ret (pc := 23) rfl rfl ?_
  exact kk _ _ (Fr_u (Fr_u (Fr_u (Fr_refl _ _) (by decide)) (by decide)) (by decide)) (Fr_cons (Fr_refl _ _) g1 (by decide)) rfl rfl rfl h1
set_option maxRecDepth 100000 in
set_option maxHeartbeats 4000000 in
theorem k_10_1  {Q : mO × mHp → Prop} (kk : ∀ I' A', Fr [43, 44, 45] I I' → Fr [36] A A' → I' 43 = nI 0 → I' 44 = nI 0 → I' 45 = nI 0 → (∀ p, p < 8 → A' 36 p = nI 0) → Q (.inl none, hS n u I' A' J B mk sn L xs X)) : mq 10 0 [some (.ref 18)] [] (hS n u I A J B mk sn L xs X) Q := by
  refine x_al1 (pc := 0) rfl rfl ?_
  refine x_const (pc := 1) (pc' := 2) (.int (nI 0)) rfl rfl rfl rfl ?_
  refine p_18_5 (pc := 2) rfl rfl ?_
  refine x_al1 (pc := 5) rfl rfl ?_
  refine x_const (pc := 6) (pc' := 7) (.int (nI 0)) rfl rfl rfl rfl ?_
  refine p_18_6 (pc := 7) rfl rfl ?_
  refine x_al1 (pc := 10) rfl rfl ?_
  refine x_const (pc := 11) (pc' := 12) (.int (nI 0)) rfl rfl rfl rfl ?_
  refine p_18_7 (pc := 12) rfl rfl ?_
  refine x_al1 (pc := 15) rfl rfl ?_
  refine g_18_3 (pc := 16) rfl rfl ?_
  refine x_const (pc := 19) (pc' := 20) (.int (nI 0)) rfl rfl rfl rfl ?_
  refine x_k (pc := 20) rfl rfl rfl ⟨Nat.le_of_ble_eq_true rfl, Nat.le_of_ble_eq_true rfl, Nat.le_of_ble_eq_true rfl⟩ rfl (k_9_21 (I := va_up (va_up (va_up I 43 (nI 0)) 44 (nI 0)) 45 (nI 0)) (A := A) (fun A1 g1 h1 => ?_))
  show mq 10 23 [some (.ref 18)] [] (hS n u (va_up (va_up (va_up I 43 (nI 0)) 44 (nI 0)) 45 (nI 0)) A1 J B mk sn L xs X) _
  refine x_ret (pc := 23) rfl rfl ?_
  exact kk _ _ (Fr_u (Fr_u (Fr_u (Fr_refl _ _) (by decide)) (by decide)) (by decide)) (Fr_cons (Fr_refl _ _) g1 (by decide)) rfl rfl rfl h1
set_option maxRecDepth 100000 in
set_option maxHeartbeats 4000000 in
theorem k_10_2  {Q : mO × mHp → Prop} (kk : ∀ I' A', Fr [46, 47, 48] I I' → Fr [40] A A' → I' 46 = nI 0 → I' 47 = nI 0 → I' 48 = nI 0 → (∀ p, p < 8 → A' 40 p = nI 0) → Q (.inl none, hS n u I' A' J B mk sn L xs X)) : mq 10 0 [some (.ref 23)] [] (hS n u I A J B mk sn L xs X) Q := by
  refine x_al1 (pc := 0) rfl rfl ?_
  refine x_const (pc := 1) (pc' := 2) (.int (nI 0)) rfl rfl rfl rfl ?_
  refine p_23_5 (pc := 2) rfl rfl ?_
  refine x_al1 (pc := 5) rfl rfl ?_
  refine x_const (pc := 6) (pc' := 7) (.int (nI 0)) rfl rfl rfl rfl ?_
  refine p_23_6 (pc := 7) rfl rfl ?_
  refine x_al1 (pc := 10) rfl rfl ?_
  refine x_const (pc := 11) (pc' := 12) (.int (nI 0)) rfl rfl rfl rfl ?_
  refine p_23_7 (pc := 12) rfl rfl ?_
  refine x_al1 (pc := 15) rfl rfl ?_
  refine g_23_3 (pc := 16) rfl rfl ?_
  refine x_const (pc := 19) (pc' := 20) (.int (nI 0)) rfl rfl rfl rfl ?_
  refine x_k (pc := 20) rfl rfl rfl ⟨Nat.le_of_ble_eq_true rfl, Nat.le_of_ble_eq_true rfl, Nat.le_of_ble_eq_true rfl⟩ rfl (k_9_26 (I := va_up (va_up (va_up I 46 (nI 0)) 47 (nI 0)) 48 (nI 0)) (A := A) (fun A1 g1 h1 => ?_))
  show mq 10 23 [some (.ref 23)] [] (hS n u (va_up (va_up (va_up I 46 (nI 0)) 47 (nI 0)) 48 (nI 0)) A1 J B mk sn L xs X) _
  refine x_ret (pc := 23) rfl rfl ?_
  exact kk _ _ (Fr_u (Fr_u (Fr_u (Fr_refl _ _) (by decide)) (by decide)) (by decide)) (Fr_cons (Fr_refl _ _) g1 (by decide)) rfl rfl rfl h1
set_option maxRecDepth 100000 in
set_option maxHeartbeats 4000000 in
theorem k_10_3  {Q : mO × mHp → Prop} (kk : ∀ I' A', Fr [49, 50, 51] I I' → Fr [44] A A' → I' 49 = nI 0 → I' 50 = nI 0 → I' 51 = nI 0 → (∀ p, p < 8 → A' 44 p = nI 0) → Q (.inl none, hS n u I' A' J B mk sn L xs X)) : mq 10 0 [some (.ref 28)] [] (hS n u I A J B mk sn L xs X) Q := by
  refine x_al1 (pc := 0) rfl rfl ?_
  refine x_const (pc := 1) (pc' := 2) (.int (nI 0)) rfl rfl rfl rfl ?_
  refine p_28_5 (pc := 2) rfl rfl ?_
  refine x_al1 (pc := 5) rfl rfl ?_
  refine x_const (pc := 6) (pc' := 7) (.int (nI 0)) rfl rfl rfl rfl ?_
  refine p_28_6 (pc := 7) rfl rfl ?_
  refine x_al1 (pc := 10) rfl rfl ?_
  refine x_const (pc := 11) (pc' := 12) (.int (nI 0)) rfl rfl rfl rfl ?_
  refine p_28_7 (pc := 12) rfl rfl ?_
  refine x_al1 (pc := 15) rfl rfl ?_
  refine g_28_3 (pc := 16) rfl rfl ?_
  refine x_const (pc := 19) (pc' := 20) (.int (nI 0)) rfl rfl rfl rfl ?_
  refine x_k (pc := 20) rfl rfl rfl ⟨Nat.le_of_ble_eq_true rfl, Nat.le_of_ble_eq_true rfl, Nat.le_of_ble_eq_true rfl⟩ rfl (k_9_31 (I := va_up (va_up (va_up I 49 (nI 0)) 50 (nI 0)) 51 (nI 0)) (A := A) (fun A1 g1 h1 => ?_))
  show mq 10 23 [some (.ref 28)] [] (hS n u (va_up (va_up (va_up I 49 (nI 0)) 50 (nI 0)) 51 (nI 0)) A1 J B mk sn L xs X) _
  refine x_ret (pc := 23) rfl rfl ?_
  exact kk _ _ (Fr_u (Fr_u (Fr_u (Fr_refl _ _) (by decide)) (by decide)) (by decide)) (Fr_cons (Fr_refl _ _) g1 (by decide)) rfl rfl rfl h1
set_option maxRecDepth 100000 in
set_option maxHeartbeats 4000000 in
theorem k_8_53  {Q : mO × mHp → Prop} (kk : ∀ I' A', Fr [11, 16, 28, 31, 40, 41, 42, 43, 44, 45, 46, 47, 48, 49, 50, 51] I I' → Fr [1, 32, 36, 40, 44] A A' → fgK 53 I' A' → Q (.inl none, hS n u I' A' J B 53 60 L xs X)) : mq 8 0 [some (.ref 1), none] [] (hS n u I A J B 53 60 L xs X) Q := by
  refine x_al1 (pc := 0) rfl rfl ?_
  refine g_1_9 (pc := 1) rfl rfl ?_
  refine g_53_0 (pc := 4) rfl rfl ?_
  refine x_const (pc := 7) (pc' := 8) (.int (nI 0)) rfl rfl rfl rfl ?_
  refine p_54_5 (pc := 8) rfl rfl ?_
  refine x_al1 (pc := 11) rfl rfl ?_
  refine g_1_4 (pc := 12) rfl rfl ?_
  refine x_const (pc := 15) (pc' := 16) (.int (nI 0)) rfl rfl rfl rfl ?_
  refine p_34_5 (pc := 16) rfl rfl ?_
  refine x_al1 (pc := 19) rfl rfl ?_
  refine x_const (pc := 20) (pc' := 21) (.int (nI 0)) rfl rfl rfl rfl ?_
  refine p_1_11 (pc := 21) rfl rfl ?_
  refine x_al1 (pc := 24) rfl rfl ?_
  refine g_1_3 (pc := 25) rfl rfl ?_
  refine x_const (pc := 28) (pc' := 29) (.int (-1)) rfl rfl rfl rfl ?_
  refine x_k (pc := 29) rfl rfl rfl ⟨Nat.le_of_ble_eq_true rfl, Nat.le_of_ble_eq_true rfl, Nat.le_of_ble_eq_true rfl⟩ rfl (k_9_33 (I := va_up (va_up (va_up I 28 (nI 0)) 16 (nI 0)) 11 (nI 0)) (A := A) (fun A0 g0 h0 => ?_))
  show mq 8 32 [some (.ref 1), none] [] (hS n u (va_up (va_up (va_up I 28 (nI 0)) 16 (nI 0)) 11 (nI 0)) A0 J B 53 60 L xs X) _
  refine x_const (pc := 32) (pc' := 33) (.int (nI 0)) rfl rfl rfl rfl ?_
  refine x_is1 (pc := 33) (ml' := [some (.ref 1), some (.int (nI 0))]) rfl rfl ?_
  refine x_il1 (pc := 34) rfl rfl ?_
  refine x_const (pc := 35) (pc' := 36) (.int (nI 4)) rfl rfl rfl rfl ?_
  refine x_cmpN_ge (pc := 36) (t := 54) rfl rfl (by decide) (by decide) (fun c => absurd c (by decide)) (fun _ => ?_)
  refine x_al1 (pc := 39) rfl rfl ?_
  refine g_1_2 (pc := 40) rfl rfl ?_
  refine x_il1 (pc := 43) rfl rfl ?_
  refine aal (pc := 44) (q := 0) (a := 13) rfl rfl (by decide) rfl ?_
  refine x_k (pc := 45) rfl rfl rfl ⟨Nat.le_of_ble_eq_true rfl, Nat.le_of_ble_eq_true rfl, Nat.le_of_ble_eq_true rfl⟩ rfl (k_10_0 (I := va_up (va_up (va_up I 28 (nI 0)) 16 (nI 0)) 11 (nI 0)) (A := A0) (fun I1 A1 f1 g1 x1 y1 z1 w1 => ?_))
  show mq 8 48 [some (.ref 1), some (.int (nI 0))] [] (hS n u I1 A1 J B 53 60 L xs X) _
  refine x_iincN (pc := 48) (c := 1) (ml' := [some (.ref 1), some (.int (nI 1))]) rfl rfl rfl rfl ?_
  refine x_step (pc := 51) (pc' := 34) rfl rfl rfl rfl ?_
  refine x_il1 (pc := 34) rfl rfl ?_
  refine x_const (pc := 35) (pc' := 36) (.int (nI 4)) rfl rfl rfl rfl ?_
  refine x_cmpN_ge (pc := 36) (t := 54) rfl rfl (by decide) (by decide) (fun c => absurd c (by decide)) (fun _ => ?_)
  refine x_al1 (pc := 39) rfl rfl ?_
  refine g_1_2 (pc := 40) rfl rfl ?_
  refine x_il1 (pc := 43) rfl rfl ?_
  refine aal (pc := 44) (q := 1) (a := 18) rfl rfl (by decide) rfl ?_
  refine x_k (pc := 45) rfl rfl rfl ⟨Nat.le_of_ble_eq_true rfl, Nat.le_of_ble_eq_true rfl, Nat.le_of_ble_eq_true rfl⟩ rfl (k_10_1 (I := I1) (A := A1) (fun I2 A2 f2 g2 x2 y2 z2 w2 => ?_))
  show mq 8 48 [some (.ref 1), some (.int (nI 1))] [] (hS n u I2 A2 J B 53 60 L xs X) _
  refine x_iincN (pc := 48) (c := 1) (ml' := [some (.ref 1), some (.int (nI 2))]) rfl rfl rfl rfl ?_
  refine x_step (pc := 51) (pc' := 34) rfl rfl rfl rfl ?_
  refine x_il1 (pc := 34) rfl rfl ?_
  refine x_const (pc := 35) (pc' := 36) (.int (nI 4)) rfl rfl rfl rfl ?_
  refine x_cmpN_ge (pc := 36) (t := 54) rfl rfl (by decide) (by decide) (fun c => absurd c (by decide)) (fun _ => ?_)
  refine x_al1 (pc := 39) rfl rfl ?_
  refine g_1_2 (pc := 40) rfl rfl ?_
  refine x_il1 (pc := 43) rfl rfl ?_
  refine aal (pc := 44) (q := 2) (a := 23) rfl rfl (by decide) rfl ?_
  refine x_k (pc := 45) rfl rfl rfl ⟨Nat.le_of_ble_eq_true rfl, Nat.le_of_ble_eq_true rfl, Nat.le_of_ble_eq_true rfl⟩ rfl (k_10_2 (I := I2) (A := A2) (fun I3 A3 f3 g3 x3 y3 z3 w3 => ?_))
  show mq 8 48 [some (.ref 1), some (.int (nI 2))] [] (hS n u I3 A3 J B 53 60 L xs X) _
  refine x_iincN (pc := 48) (c := 1) (ml' := [some (.ref 1), some (.int (nI 3))]) rfl rfl rfl rfl ?_
  refine x_step (pc := 51) (pc' := 34) rfl rfl rfl rfl ?_
  refine x_il1 (pc := 34) rfl rfl ?_
  refine x_const (pc := 35) (pc' := 36) (.int (nI 4)) rfl rfl rfl rfl ?_
  refine x_cmpN_ge (pc := 36) (t := 54) rfl rfl (by decide) (by decide) (fun c => absurd c (by decide)) (fun _ => ?_)
  refine x_al1 (pc := 39) rfl rfl ?_
  refine g_1_2 (pc := 40) rfl rfl ?_
  refine x_il1 (pc := 43) rfl rfl ?_
  refine aal (pc := 44) (q := 3) (a := 28) rfl rfl (by decide) rfl ?_
  refine x_k (pc := 45) rfl rfl rfl ⟨Nat.le_of_ble_eq_true rfl, Nat.le_of_ble_eq_true rfl, Nat.le_of_ble_eq_true rfl⟩ rfl (k_10_3 (I := I3) (A := A3) (fun I4 A4 f4 g4 x4 y4 z4 w4 => ?_))
  show mq 8 48 [some (.ref 1), some (.int (nI 3))] [] (hS n u I4 A4 J B 53 60 L xs X) _
  refine x_iincN (pc := 48) (c := 1) (ml' := [some (.ref 1), some (.int (nI 4))]) rfl rfl rfl rfl ?_
  refine x_step (pc := 51) (pc' := 34) rfl rfl rfl rfl ?_
  refine x_il1 (pc := 34) rfl rfl ?_
  refine x_const (pc := 35) (pc' := 36) (.int (nI 4)) rfl rfl rfl rfl ?_
  refine x_cmpN_ge (pc := 36) (t := 54) rfl rfl (by decide) (by decide) (fun _ => ?_) (fun c => absurd c (by decide))
  refine x_ret (pc := 54) rfl rfl ?_
  refine kk _ _ (Fr_cons (Fr_cons (Fr_cons (Fr_cons (Fr_u (Fr_u (Fr_u (Fr_refl _ _) (by decide)) (by decide)) (by decide)) f1 (by decide)) f2 (by decide)) f3 (by decide)) f4 (by decide)) (Fr_cons (Fr_cons (Fr_cons (Fr_cons (Fr_cons (Fr_refl _ _) g0 (by decide)) g1 (by decide)) g2 (by decide)) g3 (by decide)) g4 (by decide)) ⟨?_, ?_, ?_, ?_, ?_⟩
  · show I4 28 = _
    rw [f4 28 (by decide), f3 28 (by decide), f2 28 (by decide), f1 28 (by decide)]
    rfl
  · rw [f4 16 (by decide), f3 16 (by decide), f2 16 (by decide), f1 16 (by decide)]
    rfl
  · rw [f4 11 (by decide), f3 11 (by decide), f2 11 (by decide), f1 11 (by decide)]
    rfl
  · intro k hk
    rw [g4 1 (by decide), g3 1 (by decide), g2 1 (by decide), g1 1 (by decide)]
    exact h0 k hk
  · intro i hi
    match i, hi with
    | 0, _ => exact ⟨(show I4 40 = nI 0 from (by rw [f4 40 (by decide), f3 40 (by decide), f2 40 (by decide)]; exact x1)), (show I4 41 = nI 0 from (by rw [f4 41 (by decide), f3 41 (by decide), f2 41 (by decide)]; exact y1)), (show I4 42 = nI 0 from (by rw [f4 42 (by decide), f3 42 (by decide), f2 42 (by decide)]; exact z1)), fun p hp => (show A4 32 p = nI 0 from (by rw [g4 32 (by decide), g3 32 (by decide), g2 32 (by decide)]; exact w1 p hp))⟩
    | 1, _ => exact ⟨(show I4 43 = nI 0 from (by rw [f4 43 (by decide), f3 43 (by decide)]; exact x2)), (show I4 44 = nI 0 from (by rw [f4 44 (by decide), f3 44 (by decide)]; exact y2)), (show I4 45 = nI 0 from (by rw [f4 45 (by decide), f3 45 (by decide)]; exact z2)), fun p hp => (show A4 36 p = nI 0 from (by rw [g4 36 (by decide), g3 36 (by decide)]; exact w2 p hp))⟩
    | 2, _ => exact ⟨(show I4 46 = nI 0 from (by rw [f4 46 (by decide)]; exact x3)), (show I4 47 = nI 0 from (by rw [f4 47 (by decide)]; exact y3)), (show I4 48 = nI 0 from (by rw [f4 48 (by decide)]; exact z3)), fun p hp => (show A4 40 p = nI 0 from (by rw [g4 40 (by decide)]; exact w3 p hp))⟩
    | 3, _ => exact ⟨(show I4 49 = nI 0 from x4), (show I4 50 = nI 0 from y4), (show I4 51 = nI 0 from z4), fun p hp => (show A4 44 p = nI 0 from w4 p hp)⟩
set_option maxRecDepth 100000 in
set_option maxHeartbeats 4000000 in
theorem k_8_60  {Q : mO × mHp → Prop} (kk : ∀ I' A', Fr [11, 16, 28, 31, 40, 41, 42, 43, 44, 45, 46, 47, 48, 49, 50, 51] I I' → Fr [1, 32, 36, 40, 44] A A' → fgK 60 I' A' → Q (.inl none, hS n u I' A' J B 60 53 L xs X)) : mq 8 0 [some (.ref 1), none] [] (hS n u I A J B 60 53 L xs X) Q := by
  refine x_al1 (pc := 0) rfl rfl ?_
  refine g_1_9 (pc := 1) rfl rfl ?_
  refine g_60_0 (pc := 4) rfl rfl ?_
  refine x_const (pc := 7) (pc' := 8) (.int (nI 0)) rfl rfl rfl rfl ?_
  refine p_61_5 (pc := 8) rfl rfl ?_
  refine x_al1 (pc := 11) rfl rfl ?_
  refine g_1_4 (pc := 12) rfl rfl ?_
  refine x_const (pc := 15) (pc' := 16) (.int (nI 0)) rfl rfl rfl rfl ?_
  refine p_34_5 (pc := 16) rfl rfl ?_
  refine x_al1 (pc := 19) rfl rfl ?_
  refine x_const (pc := 20) (pc' := 21) (.int (nI 0)) rfl rfl rfl rfl ?_
  refine p_1_11 (pc := 21) rfl rfl ?_
  refine x_al1 (pc := 24) rfl rfl ?_
  refine g_1_3 (pc := 25) rfl rfl ?_
  refine x_const (pc := 28) (pc' := 29) (.int (-1)) rfl rfl rfl rfl ?_
  refine x_k (pc := 29) rfl rfl rfl ⟨Nat.le_of_ble_eq_true rfl, Nat.le_of_ble_eq_true rfl, Nat.le_of_ble_eq_true rfl⟩ rfl (k_9_33 (I := va_up (va_up (va_up I 31 (nI 0)) 16 (nI 0)) 11 (nI 0)) (A := A) (fun A0 g0 h0 => ?_))
  show mq 8 32 [some (.ref 1), none] [] (hS n u (va_up (va_up (va_up I 31 (nI 0)) 16 (nI 0)) 11 (nI 0)) A0 J B 60 53 L xs X) _
  refine x_const (pc := 32) (pc' := 33) (.int (nI 0)) rfl rfl rfl rfl ?_
  refine x_is1 (pc := 33) (ml' := [some (.ref 1), some (.int (nI 0))]) rfl rfl ?_
  refine x_il1 (pc := 34) rfl rfl ?_
  refine x_const (pc := 35) (pc' := 36) (.int (nI 4)) rfl rfl rfl rfl ?_
  refine x_cmpN_ge (pc := 36) (t := 54) rfl rfl (by decide) (by decide) (fun c => absurd c (by decide)) (fun _ => ?_)
  refine x_al1 (pc := 39) rfl rfl ?_
  refine g_1_2 (pc := 40) rfl rfl ?_
  refine x_il1 (pc := 43) rfl rfl ?_
  refine aal (pc := 44) (q := 0) (a := 13) rfl rfl (by decide) rfl ?_
  refine x_k (pc := 45) rfl rfl rfl ⟨Nat.le_of_ble_eq_true rfl, Nat.le_of_ble_eq_true rfl, Nat.le_of_ble_eq_true rfl⟩ rfl (k_10_0 (I := va_up (va_up (va_up I 31 (nI 0)) 16 (nI 0)) 11 (nI 0)) (A := A0) (fun I1 A1 f1 g1 x1 y1 z1 w1 => ?_))
  show mq 8 48 [some (.ref 1), some (.int (nI 0))] [] (hS n u I1 A1 J B 60 53 L xs X) _
  refine x_iincN (pc := 48) (c := 1) (ml' := [some (.ref 1), some (.int (nI 1))]) rfl rfl rfl rfl ?_
  refine x_step (pc := 51) (pc' := 34) rfl rfl rfl rfl ?_
  refine x_il1 (pc := 34) rfl rfl ?_
  refine x_const (pc := 35) (pc' := 36) (.int (nI 4)) rfl rfl rfl rfl ?_
  refine x_cmpN_ge (pc := 36) (t := 54) rfl rfl (by decide) (by decide) (fun c => absurd c (by decide)) (fun _ => ?_)
  refine x_al1 (pc := 39) rfl rfl ?_
  refine g_1_2 (pc := 40) rfl rfl ?_
  refine x_il1 (pc := 43) rfl rfl ?_
  refine aal (pc := 44) (q := 1) (a := 18) rfl rfl (by decide) rfl ?_
  refine x_k (pc := 45) rfl rfl rfl ⟨Nat.le_of_ble_eq_true rfl, Nat.le_of_ble_eq_true rfl, Nat.le_of_ble_eq_true rfl⟩ rfl (k_10_1 (I := I1) (A := A1) (fun I2 A2 f2 g2 x2 y2 z2 w2 => ?_))
  show mq 8 48 [some (.ref 1), some (.int (nI 1))] [] (hS n u I2 A2 J B 60 53 L xs X) _
  refine x_iincN (pc := 48) (c := 1) (ml' := [some (.ref 1), some (.int (nI 2))]) rfl rfl rfl rfl ?_
  refine x_step (pc := 51) (pc' := 34) rfl rfl rfl rfl ?_
  refine x_il1 (pc := 34) rfl rfl ?_
  refine x_const (pc := 35) (pc' := 36) (.int (nI 4)) rfl rfl rfl rfl ?_
  refine x_cmpN_ge (pc := 36) (t := 54) rfl rfl (by decide) (by decide) (fun c => absurd c (by decide)) (fun _ => ?_)
  refine x_al1 (pc := 39) rfl rfl ?_
  refine g_1_2 (pc := 40) rfl rfl ?_
  refine x_il1 (pc := 43) rfl rfl ?_
  refine aal (pc := 44) (q := 2) (a := 23) rfl rfl (by decide) rfl ?_
  refine x_k (pc := 45) rfl rfl rfl ⟨Nat.le_of_ble_eq_true rfl, Nat.le_of_ble_eq_true rfl, Nat.le_of_ble_eq_true rfl⟩ rfl (k_10_2 (I := I2) (A := A2) (fun I3 A3 f3 g3 x3 y3 z3 w3 => ?_))
  show mq 8 48 [some (.ref 1), some (.int (nI 2))] [] (hS n u I3 A3 J B 60 53 L xs X) _
  refine x_iincN (pc := 48) (c := 1) (ml' := [some (.ref 1), some (.int (nI 3))]) rfl rfl rfl rfl ?_
  refine x_step (pc := 51) (pc' := 34) rfl rfl rfl rfl ?_
  refine x_il1 (pc := 34) rfl rfl ?_
  refine x_const (pc := 35) (pc' := 36) (.int (nI 4)) rfl rfl rfl rfl ?_
  refine x_cmpN_ge (pc := 36) (t := 54) rfl rfl (by decide) (by decide) (fun c => absurd c (by decide)) (fun _ => ?_)
  refine x_al1 (pc := 39) rfl rfl ?_
  refine g_1_2 (pc := 40) rfl rfl ?_
  refine x_il1 (pc := 43) rfl rfl ?_
  refine aal (pc := 44) (q := 3) (a := 28) rfl rfl (by decide) rfl ?_
  refine x_k (pc := 45) rfl rfl rfl ⟨Nat.le_of_ble_eq_true rfl, Nat.le_of_ble_eq_true rfl, Nat.le_of_ble_eq_true rfl⟩ rfl (k_10_3 (I := I3) (A := A3) (fun I4 A4 f4 g4 x4 y4 z4 w4 => ?_))
  show mq 8 48 [some (.ref 1), some (.int (nI 3))] [] (hS n u I4 A4 J B 60 53 L xs X) _
  refine x_iincN (pc := 48) (c := 1) (ml' := [some (.ref 1), some (.int (nI 4))]) rfl rfl rfl rfl ?_
  refine x_step (pc := 51) (pc' := 34) rfl rfl rfl rfl ?_
  refine x_il1 (pc := 34) rfl rfl ?_
  refine x_const (pc := 35) (pc' := 36) (.int (nI 4)) rfl rfl rfl rfl ?_
  refine x_cmpN_ge (pc := 36) (t := 54) rfl rfl (by decide) (by decide) (fun _ => ?_) (fun c => absurd c (by decide))
  refine x_ret (pc := 54) rfl rfl ?_
  refine kk _ _ (Fr_cons (Fr_cons (Fr_cons (Fr_cons (Fr_u (Fr_u (Fr_u (Fr_refl _ _) (by decide)) (by decide)) (by decide)) f1 (by decide)) f2 (by decide)) f3 (by decide)) f4 (by decide)) (Fr_cons (Fr_cons (Fr_cons (Fr_cons (Fr_cons (Fr_refl _ _) g0 (by decide)) g1 (by decide)) g2 (by decide)) g3 (by decide)) g4 (by decide)) ⟨?_, ?_, ?_, ?_, ?_⟩
  · show I4 31 = _
    rw [f4 31 (by decide), f3 31 (by decide), f2 31 (by decide), f1 31 (by decide)]
    rfl
  · rw [f4 16 (by decide), f3 16 (by decide), f2 16 (by decide), f1 16 (by decide)]
    rfl
  · rw [f4 11 (by decide), f3 11 (by decide), f2 11 (by decide), f1 11 (by decide)]
    rfl
  · intro k hk
    rw [g4 1 (by decide), g3 1 (by decide), g2 1 (by decide), g1 1 (by decide)]
    exact h0 k hk
  · intro i hi
    match i, hi with
    | 0, _ => exact ⟨(show I4 40 = nI 0 from (by rw [f4 40 (by decide), f3 40 (by decide), f2 40 (by decide)]; exact x1)), (show I4 41 = nI 0 from (by rw [f4 41 (by decide), f3 41 (by decide), f2 41 (by decide)]; exact y1)), (show I4 42 = nI 0 from (by rw [f4 42 (by decide), f3 42 (by decide), f2 42 (by decide)]; exact z1)), fun p hp => (show A4 32 p = nI 0 from (by rw [g4 32 (by decide), g3 32 (by decide), g2 32 (by decide)]; exact w1 p hp))⟩
    | 1, _ => exact ⟨(show I4 43 = nI 0 from (by rw [f4 43 (by decide), f3 43 (by decide)]; exact x2)), (show I4 44 = nI 0 from (by rw [f4 44 (by decide), f3 44 (by decide)]; exact y2)), (show I4 45 = nI 0 from (by rw [f4 45 (by decide), f3 45 (by decide)]; exact z2)), fun p hp => (show A4 36 p = nI 0 from (by rw [g4 36 (by decide), g3 36 (by decide)]; exact w2 p hp))⟩
    | 2, _ => exact ⟨(show I4 46 = nI 0 from (by rw [f4 46 (by decide)]; exact x3)), (show I4 47 = nI 0 from (by rw [f4 47 (by decide)]; exact y3)), (show I4 48 = nI 0 from (by rw [f4 48 (by decide)]; exact z3)), fun p hp => (show A4 40 p = nI 0 from (by rw [g4 40 (by decide)]; exact w3 p hp))⟩
    | 3, _ => exact ⟨(show I4 49 = nI 0 from x4), (show I4 50 = nI 0 from y4), (show I4 51 = nI 0 from z4), fun p hp => (show A4 44 p = nI 0 from w4 p hp)⟩
set_option maxRecDepth 100000 in
set_option maxHeartbeats 4000000 in
theorem k_8 (hmk : mks mk sn) {Q : mO × mHp → Prop} (kk : ∀ I' A', Fr [11, 16, 28, 31, 40, 41, 42, 43, 44, 45, 46, 47, 48, 49, 50, 51] I I' → Fr [1, 32, 36, 40, 44] A A' → fgK mk I' A' → Q (.inl none, hS n u I' A' J B mk sn L xs X)) : mq 8 0 [some (.ref 1), none] [] (hS n u I A J B mk sn L xs X) Q := by
  rcases hmk with ⟨rfl, rfl⟩ | ⟨rfl, rfl⟩
  · exact k_8_53 kk
  · exact k_8_60 kk
set_option maxRecDepth 100000 in
set_option maxHeartbeats 4000000 in
theorem l_31_49 {p f c : Nat} {t : List Nat} (hb : ∀ i, gB0 t i < 256) (hpc : p + c ≤ 2048) (hfc : f + c ≤ 128) {Q : mO × mHp → Prop} : ∀ (z j : Nat) {A : Nat → Nat → Int32}, (j + z = c) → (DK (A 0) (dW D p j (fun i => gB0 t (f + i)))) → (Pg 14 3 128 I A t) → (∀ A', Fr [0] A A' → DK (A' 0) (dW D p c (fun i => gB0 t (f + i))) → mq 31 52 [some (.ref 2), some (.int (nI p)), some (.ref 49), some (.int (nI f)), some (.int (nI c)), some (.int (nI c))] [] (hS n u I A' J B mk sn L xs X) Q) → mq 31 3 [some (.ref 2), some (.int (nI p)), some (.ref 49), some (.int (nI f)), some (.int (nI c)), some (.int (nI j))] [] (hS n u I A J B mk sn L xs X) Q := by
  intro z
  induction z with
  | zero =>
    intro j A hz hd hP kk
    refine x_il2 (pc := 3) rfl rfl ?_
    refine x_il2 (pc := 5) rfl rfl ?_
    refine x_cmpN_ge (pc := 7) (t := 52) rfl rfl (by omega) (by omega) (fun c7 => ?_) (fun c7 => ?_)
    · have hj : j = c := by omega
      rw [hj] at hd ⊢
      exact kk A (Fr_refl _ _) hd
    · omega
  | succ z ih =>
    intro j A hz hd hP kk
    refine x_il2 (pc := 3) rfl rfl ?_
    refine x_il2 (pc := 5) rfl rfl ?_
    refine x_cmpN_ge (pc := 7) (t := 52) rfl rfl (by omega) (by omega) (fun c7 => ?_) (fun c7 => ?_)
    · omega
    · refine x_il1 (pc := 10) rfl rfl ?_
      refine x_il2 (pc := 11) rfl rfl ?_
      refine x_iaddN (pc := 13) (c := p + j) rfl rfl ?_
      refine x_ifN_lt (pc := 14) (t := 46) rfl rfl (by omega) ?_
      refine x_il1 (pc := 17) rfl rfl ?_
      refine x_il2 (pc := 18) rfl rfl ?_
      refine x_iaddN (pc := 20) (c := p + j) rfl rfl ?_
      refine x_al1 (pc := 21) rfl rfl ?_
      refine g_2_0 (pc := 22) rfl rfl ?_
      refine ln_3 (pc := 25) rfl ?_
      refine x_cmpN_ge (pc := 26) (t := 46) rfl rfl (by omega) (by omega) (fun c26 => ?_) (fun c26 => ?_)
      · omega
      · refine x_al1 (pc := 29) rfl rfl ?_
        refine g_2_0 (pc := 30) rfl rfl ?_
        refine x_il1 (pc := 33) rfl rfl ?_
        refine x_il2 (pc := 34) rfl rfl ?_
        refine x_iaddN (pc := 36) (c := p + j) rfl rfl ?_
        refine x_al1 (pc := 37) rfl rfl ?_
        refine x_il1 (pc := 38) rfl rfl ?_
        refine x_il2 (pc := 39) rfl rfl ?_
        refine x_iaddN (pc := 41) (c := f + j) rfl rfl ?_
        refine x_k (pc := 42) rfl rfl rfl ⟨Nat.le_of_ble_eq_true rfl, Nat.le_of_ble_eq_true rfl, Nat.le_of_ble_eq_true rfl⟩ rfl (k_32_49 (I := I) (A := A) (l := t) (j := f + j) hP (by omega) ?_)
        show mq 31 45 [some (.ref 2), some (.int (nI p)), some (.ref 49), some (.int (nI f)), some (.int (nI c)), some (.int (nI j))] [.int (nI (gB0 t (f + j))), .int (nI (p + j)), .ref 3] (hS n u I A J B mk sn L xs X) _
        refine as_3 (pc := 45) (q := p + j) rfl rfl (by omega) ?_
        refine x_iincN (pc := 46) (c := 1) (ml' := [some (.ref 2), some (.int (nI p)), some (.ref 49), some (.int (nI f)), some (.int (nI c)), some (.int (nI (j + 1)))]) rfl rfl rfl rfl ?_
        refine x_step (pc := 49) (pc' := 3) rfl rfl rfl rfl ?_
        exact ih (j + 1) (A := va_up A 0 (upd (A 0) (p + j) (nI (gB0 t (f + j))))) (by omega) (DK_put (g := (fun i => gB0 t (f + i))) hd (hb _) (by omega)) (Pg_fr hP (Fr_refl [] _) (Fr_up A 0 _) (by decide) (by decide)) (fun A9 g9 h9 => kk A9 (Fr_cons (Fr_up A 0 _) g9 (by decide)) h9)
set_option maxRecDepth 100000 in
set_option maxHeartbeats 4000000 in
theorem k_31_49_n {p f c w : Nat} {t : List Nat} (h : DK (A 0) D) (hb : ∀ i, gB0 t i < 256) (hpc : p + c ≤ 2048) (hfc : f + c ≤ 128) (hP : Pg 14 3 128 I A t) (h3 : I 3 = nI w) (h1 : I 1 = nI 0) {Q : mO × mHp → Prop} (kk : ∀ I' A', Fr [2, 3] I I' → Fr [0] A A' → DK (A' 0) (dW D p c (fun i => gB0 t (f + i))) → I' 3 = nI (w + 1) → Q (.inl none, hS n u I' A' J B mk sn L xs X)) : mq 31 0 [some (.ref 2), some (.int (nI p)), some (.ref 49), some (.int (nI f)), some (.int (nI c)), none] [] (hS n u I A J B mk sn L xs X) Q := by
  refine x_const (pc := 0) (pc' := 1) (.int (nI 0)) rfl rfl rfl rfl ?_
  refine x_is2 (pc := 1) (ml' := [some (.ref 2), some (.int (nI p)), some (.ref 49), some (.int (nI f)), some (.int (nI c)), some (.int (nI 0))]) rfl rfl ?_
  refine l_31_49 (t := t) hb hpc hfc c 0 (Nat.zero_add c) (by rw [dW_0]; exact h) hP (fun A9 g9 h9 => ?_)
  refine x_al1 (pc := 52) rfl rfl ?_
  refine x_step (pc := 53) (pc' := 54) (st' := [.ref 2, .ref 2]) rfl rfl rfl rfl ?_
  refine g_2_4 (pc := 54) (v := nI w) rfl rfl h3 ?_
  refine x_const (pc := 57) (pc' := 58) (.int (nI 1)) rfl rfl rfl rfl ?_
  refine x_iaddN (pc := 58) (c := w + 1) rfl rfl ?_
  refine p_2_4 (pc := 59) rfl rfl ?_
  refine x_al1 (pc := 62) rfl rfl ?_
  refine g_2_2 (pc := 63) (v := nI 0) rfl rfl h1 ?_
  refine x_ifN_eq (pc := 66) (t := 79) rfl rfl (by decide) (fun _ => ?_) (fun c => absurd c (by decide))
  refine x_ret (pc := 79) rfl rfl ?_
  exact kk _ _ (Fr_u (Fr_refl _ _) (by decide)) (Fr_cons (Fr_refl _ _) g9 (by decide)) h9 rfl
set_option maxRecDepth 100000 in
set_option maxHeartbeats 4000000 in
theorem k_31_49_s {p f c w : Nat} {t : List Nat} (h : DK (A 0) D) (hb : ∀ i, gB0 t i < 256) (hpc : p + c ≤ 2048) (hfc : f + c ≤ 128) (hP : Pg 14 3 128 I A t) (h3 : I 3 = nI w) {k : Nat} (h1 : I 1 = nI 1) (h2 : I 2 = nI (k + 1)) (hk : k + 1 < 2 ^ 31) {Q : mO × mHp → Prop} (kk : ∀ I' A', Fr [2, 3] I I' → Fr [0] A A' → DK (A' 0) (dW D p c (fun i => gB0 t (f + i))) → I' 3 = nI (w + 1) → I' 2 = nI k → Q (.inl none, hS n u I' A' J B mk sn L xs X)) : mq 31 0 [some (.ref 2), some (.int (nI p)), some (.ref 49), some (.int (nI f)), some (.int (nI c)), none] [] (hS n u I A J B mk sn L xs X) Q := by
  refine x_const (pc := 0) (pc' := 1) (.int (nI 0)) rfl rfl rfl rfl ?_
  refine x_is2 (pc := 1) (ml' := [some (.ref 2), some (.int (nI p)), some (.ref 49), some (.int (nI f)), some (.int (nI c)), some (.int (nI 0))]) rfl rfl ?_
  refine l_31_49 (t := t) hb hpc hfc c 0 (Nat.zero_add c) (by rw [dW_0]; exact h) hP (fun A9 g9 h9 => ?_)
  refine x_al1 (pc := 52) rfl rfl ?_
  refine x_step (pc := 53) (pc' := 54) (st' := [.ref 2, .ref 2]) rfl rfl rfl rfl ?_
  refine g_2_4 (pc := 54) (v := nI w) rfl rfl h3 ?_
  refine x_const (pc := 57) (pc' := 58) (.int (nI 1)) rfl rfl rfl rfl ?_
  refine x_iaddN (pc := 58) (c := w + 1) rfl rfl ?_
  refine p_2_4 (pc := 59) rfl rfl ?_
  refine x_al1 (pc := 62) rfl rfl ?_
  refine g_2_2 (pc := 63) (v := nI 1) rfl rfl h1 ?_
  refine x_ifN_eq (pc := 66) (t := 79) rfl rfl (by decide) (fun c => absurd c (by decide)) (fun _ => ?_)
  refine x_al1 (pc := 69) rfl rfl ?_
  refine x_step (pc := 70) (pc' := 71) (st' := [.ref 2, .ref 2]) rfl rfl rfl rfl ?_
  refine g_2_3 (pc := 71) (v := nI (k + 1)) rfl rfl h2 ?_
  refine x_const (pc := 74) (pc' := 75) (.int (nI 1)) rfl rfl rfl rfl ?_
  refine x_isubV (pc := 75) (v := nI k) rfl ((pk_sub (by omega)).trans rfl) ?_
  refine p_2_3 (pc := 76) rfl rfl ?_
  refine x_ret (pc := 79) rfl rfl ?_
  exact kk _ _ (Fr_u (Fr_u (Fr_refl _ _) (by decide)) (by decide)) (Fr_cons (Fr_refl _ _) g9 (by decide)) h9 rfl rfl
set_option maxRecDepth 100000 in
set_option maxHeartbeats 4000000 in
theorem k_28_49 {p f c : Nat} {t : List Nat} {S : DS} (hD : kD mk S I A) (ho : dO S = false) (hmk : mks mk sn) (hb : ∀ i, gB0 t i < 256) (hpc : p + c ≤ 2048) (hfc : f + c ≤ 128) (hP : Pg 14 3 128 I A t) (hn : 77 ≤ n ∧ n < 10000) (hu : u + 6 < 1000000) {Q : mO × mHp → Prop} (kk : dO (wr1 S (wi p c (fun i => gB0 t (f + i)))) = false → ∀ I' A', Fr [2, 3] I I' → Fr [0] A A' → kD mk (wr1 S (wi p c (fun i => gB0 t (f + i)))) I' A' → Q (.inl none, hS n u I' A' J B mk sn L xs X)) (kx : dO (wr1 S (wi p c (fun i => gB0 t (f + i)))) = true → ∀ I' A', Up 60 I I' → Up 50 A A' → kD mk (wr1 S (wi p c (fun i => gB0 t (f + i)))) I' A' → Q (.inr n, hS (n + 1) (u + 6) I' A' J B mk sn L xs (va_up X n (.inr (9, []))))) : mq 28 0 [some (.ref 1), some (.int (nI p)), some (.ref 49), some (.int (nI f)), some (.int (nI c))] [] (hS n u I A J B mk sn L xs X) Q := by
  have hc := hD.1.2.1 ho
  rcases eC : dC S with _ | _ | k
  · rw [eC] at hc
    refine x_al1 (pc := 0) rfl rfl ?_
    refine g_1_0 (pc := 1) rfl rfl ?_
    refine x_k (pc := 4) rfl rfl rfl ⟨Nat.le_of_ble_eq_true rfl, Nat.le_of_ble_eq_true rfl, Nat.le_of_ble_eq_true rfl⟩ rfl (k_29_n (I := I) (A := A) hc ?_)
    show mq 28 7 [some (.ref 1), some (.int (nI p)), some (.ref 49), some (.int (nI f)), some (.int (nI c))] [.int (nI 0)] (hS n u I A J B mk sn L xs X) _
    refine x_ifN_eq (pc := 7) (t := 32) rfl rfl (by decide) (fun _ => ?_) (fun c => absurd c (by decide))
    refine x_al1 (pc := 32) rfl rfl ?_
    refine g_1_0 (pc := 33) rfl rfl ?_
    refine x_il1 (pc := 36) rfl rfl ?_
    refine x_al1 (pc := 37) rfl rfl ?_
    refine x_il1 (pc := 38) rfl rfl ?_
    refine x_il2 (pc := 39) rfl rfl ?_
    refine x_k (pc := 41) rfl rfl rfl ⟨Nat.le_of_ble_eq_true rfl, Nat.le_of_ble_eq_true rfl, Nat.le_of_ble_eq_true rfl⟩ rfl (k_31_49_n (I := I) (A := A) (D := dD S) (t := t) hD.2.1 hb hpc hfc hP hD.1.2.2 hc (fun I1 A1 f1 g1 h1 w1 => ?_))
    show mq 28 44 [some (.ref 1), some (.int (nI p)), some (.ref 49), some (.int (nI f)), some (.int (nI c))] [] (hS n u I1 A1 J B mk sn L xs X) _
    refine x_ret (pc := 44) rfl rfl ?_
    have e1 : wr1 S (wi p c (fun i => gB0 t (f + i))) = dS (dW (dD S) p c (fun i => gB0 t (f + i))) none (dN S + 1) false := by
      rw [wr1_on _ ho (by rw [eC]; simp), eC]
      rfl
    refine kk (by rw [e1]; rfl) I1 A1 f1 g1 ?_
    rw [e1]
    refine ⟨⟨(f1 0 (by decide)).trans ?_, fun _ => ?_, w1⟩, h1, fun q => Bool.noConfusion q⟩
    · rw [hD.1.1, ho]
      rfl
    · exact (f1 1 (by decide)).trans hc
  · rw [eC] at hc
    refine x_al1 (pc := 0) rfl rfl ?_
    refine g_1_0 (pc := 1) rfl rfl ?_
    refine x_k (pc := 4) rfl rfl rfl ⟨Nat.le_of_ble_eq_true rfl, Nat.le_of_ble_eq_true rfl, Nat.le_of_ble_eq_true rfl⟩ rfl (k_29_0 (I := I) (A := A) hc.1 hc.2.1 ?_)
    show mq 28 7 [some (.ref 1), some (.int (nI p)), some (.ref 49), some (.int (nI f)), some (.int (nI c))] [.int (nI 1)] (hS n u I A J B mk sn L xs X) _
    refine x_ifN_eq (pc := 7) (t := 32) rfl rfl (by decide) (fun c => absurd c (by decide)) (fun _ => ?_)
    refine x_al1 (pc := 10) rfl rfl ?_
    refine g_1_0 (pc := 11) rfl rfl ?_
    refine x_k (pc := 14) rfl rfl rfl ⟨Nat.le_of_ble_eq_true rfl, Nat.le_of_ble_eq_true rfl, Nat.le_of_ble_eq_true rfl⟩ rfl (k_30 (I := I) ?_)
    show mq 28 17 [some (.ref 1), some (.int (nI p)), some (.ref 49), some (.int (nI f)), some (.int (nI c))] [] (hS n u (va_up I 0 (nI 0)) A J B mk sn L xs X) _
    refine x_al1 (pc := 17) rfl rfl ?_
    refine x_k (pc := 18) rfl rfl rfl ⟨Nat.le_of_ble_eq_true rfl, Nat.le_of_ble_eq_true rfl, Nat.le_of_ble_eq_true rfl⟩ rfl (k_8 (I := va_up I 0 (nI 0)) (A := A) hmk (fun I1 A1 f1 g1 h1 => ?_))
    show mq 28 21 [some (.ref 1), some (.int (nI p)), some (.ref 49), some (.int (nI f)), some (.int (nI c))] [] (hS n u I1 A1 J B mk sn L xs X) _
    refine x_thr (pc := 21) rfl rfl hn hu rfl ⟨Nat.le_of_ble_eq_true rfl, Nat.le_of_ble_eq_true rfl⟩ ?_
    have e1 : wr1 S (wi p c (fun i => gB0 t (f + i))) = dS (dD S) none (dN S) true := wr1_due _ ho eC
    refine kx (by rw [e1]; rfl) I1 A1 (Up_tr (Up_fr (Fr_up I 0 (nI 0)) (by decide)) (Up_fr f1 (by decide))) (Up_fr g1 (by decide)) ?_
    rw [e1]
    refine ⟨⟨(f1 0 (by decide)).trans rfl, fun q => Bool.noConfusion q, ?_⟩, ?_, fun _ => h1⟩
    · exact (f1 3 (by decide)).trans hD.1.2.2
    · rw [g1 0 (by decide)]
      exact hD.2.1
  · rw [eC] at hc
    refine x_al1 (pc := 0) rfl rfl ?_
    refine g_1_0 (pc := 1) rfl rfl ?_
    refine x_k (pc := 4) rfl rfl rfl ⟨Nat.le_of_ble_eq_true rfl, Nat.le_of_ble_eq_true rfl, Nat.le_of_ble_eq_true rfl⟩ rfl (k_29_s (I := I) (A := A) hc.1 hc.2.1 hc.2.2 ?_)
    show mq 28 7 [some (.ref 1), some (.int (nI p)), some (.ref 49), some (.int (nI f)), some (.int (nI c))] [.int (nI 0)] (hS n u I A J B mk sn L xs X) _
    refine x_ifN_eq (pc := 7) (t := 32) rfl rfl (by decide) (fun _ => ?_) (fun c => absurd c (by decide))
    refine x_al1 (pc := 32) rfl rfl ?_
    refine g_1_0 (pc := 33) rfl rfl ?_
    refine x_il1 (pc := 36) rfl rfl ?_
    refine x_al1 (pc := 37) rfl rfl ?_
    refine x_il1 (pc := 38) rfl rfl ?_
    refine x_il2 (pc := 39) rfl rfl ?_
    refine x_k (pc := 41) rfl rfl rfl ⟨Nat.le_of_ble_eq_true rfl, Nat.le_of_ble_eq_true rfl, Nat.le_of_ble_eq_true rfl⟩ rfl (k_31_49_s (I := I) (A := A) (D := dD S) (t := t) hD.2.1 hb hpc hfc hP hD.1.2.2 hc.1 hc.2.1 hc.2.2 (fun I1 A1 f1 g1 h1 w1 u1 => ?_))
    show mq 28 44 [some (.ref 1), some (.int (nI p)), some (.ref 49), some (.int (nI f)), some (.int (nI c))] [] (hS n u I1 A1 J B mk sn L xs X) _
    refine x_ret (pc := 44) rfl rfl ?_
    have e1 : wr1 S (wi p c (fun i => gB0 t (f + i))) = dS (dW (dD S) p c (fun i => gB0 t (f + i))) (some k) (dN S + 1) false := by
      rw [wr1_on _ ho (by rw [eC]; simp), eC]
      rfl
    refine kk (by rw [e1]; rfl) I1 A1 f1 g1 ?_
    rw [e1]
    refine ⟨⟨(f1 0 (by decide)).trans ?_, fun _ => ?_, w1⟩, h1, fun q => Bool.noConfusion q⟩
    · rw [hD.1.1, ho]
      rfl
    · exact ⟨(f1 1 (by decide)).trans hc.1, u1, Nat.lt_of_succ_lt hc.2.2⟩
set_option maxRecDepth 100000 in
set_option maxHeartbeats 4000000 in
theorem l_31_51 {p f c : Nat} {t : List Nat} (hb : ∀ i, gB0 t i < 256) (hpc : p + c ≤ 2048) (hfc : f + c ≤ 32) {Q : mO × mHp → Prop} : ∀ (z j : Nat) {A : Nat → Nat → Int32}, (j + z = c) → (DK (A 0) (dW D p j (fun i => gB0 t (f + i)))) → (Pg 15 4 32 I A t) → (∀ A', Fr [0] A A' → DK (A' 0) (dW D p c (fun i => gB0 t (f + i))) → mq 31 52 [some (.ref 2), some (.int (nI p)), some (.ref 51), some (.int (nI f)), some (.int (nI c)), some (.int (nI c))] [] (hS n u I A' J B mk sn L xs X) Q) → mq 31 3 [some (.ref 2), some (.int (nI p)), some (.ref 51), some (.int (nI f)), some (.int (nI c)), some (.int (nI j))] [] (hS n u I A J B mk sn L xs X) Q := by
  intro z
  induction z with
  | zero =>
    intro j A hz hd hP kk
    refine x_il2 (pc := 3) rfl rfl ?_
    refine x_il2 (pc := 5) rfl rfl ?_
    refine x_cmpN_ge (pc := 7) (t := 52) rfl rfl (by omega) (by omega) (fun c7 => ?_) (fun c7 => ?_)
    · have hj : j = c := by omega
      rw [hj] at hd ⊢
      exact kk A (Fr_refl _ _) hd
    · omega
  | succ z ih =>
    intro j A hz hd hP kk
    refine x_il2 (pc := 3) rfl rfl ?_
    refine x_il2 (pc := 5) rfl rfl ?_
    refine x_cmpN_ge (pc := 7) (t := 52) rfl rfl (by omega) (by omega) (fun c7 => ?_) (fun c7 => ?_)
    · omega
    · refine x_il1 (pc := 10) rfl rfl ?_
      refine x_il2 (pc := 11) rfl rfl ?_
      refine x_iaddN (pc := 13) (c := p + j) rfl rfl ?_
      refine x_ifN_lt (pc := 14) (t := 46) rfl rfl (by omega) ?_
      refine x_il1 (pc := 17) rfl rfl ?_
      refine x_il2 (pc := 18) rfl rfl ?_
      refine x_iaddN (pc := 20) (c := p + j) rfl rfl ?_
      refine x_al1 (pc := 21) rfl rfl ?_
      refine g_2_0 (pc := 22) rfl rfl ?_
      refine ln_3 (pc := 25) rfl ?_
      refine x_cmpN_ge (pc := 26) (t := 46) rfl rfl (by omega) (by omega) (fun c26 => ?_) (fun c26 => ?_)
      · omega
      · refine x_al1 (pc := 29) rfl rfl ?_
        refine g_2_0 (pc := 30) rfl rfl ?_
        refine x_il1 (pc := 33) rfl rfl ?_
        refine x_il2 (pc := 34) rfl rfl ?_
        refine x_iaddN (pc := 36) (c := p + j) rfl rfl ?_
        refine x_al1 (pc := 37) rfl rfl ?_
        refine x_il1 (pc := 38) rfl rfl ?_
        refine x_il2 (pc := 39) rfl rfl ?_
        refine x_iaddN (pc := 41) (c := f + j) rfl rfl ?_
        refine x_k (pc := 42) rfl rfl rfl ⟨Nat.le_of_ble_eq_true rfl, Nat.le_of_ble_eq_true rfl, Nat.le_of_ble_eq_true rfl⟩ rfl (k_32_51 (I := I) (A := A) (l := t) (j := f + j) hP (by omega) ?_)
        show mq 31 45 [some (.ref 2), some (.int (nI p)), some (.ref 51), some (.int (nI f)), some (.int (nI c)), some (.int (nI j))] [.int (nI (gB0 t (f + j))), .int (nI (p + j)), .ref 3] (hS n u I A J B mk sn L xs X) _
        refine as_3 (pc := 45) (q := p + j) rfl rfl (by omega) ?_
        refine x_iincN (pc := 46) (c := 1) (ml' := [some (.ref 2), some (.int (nI p)), some (.ref 51), some (.int (nI f)), some (.int (nI c)), some (.int (nI (j + 1)))]) rfl rfl rfl rfl ?_
        refine x_step (pc := 49) (pc' := 3) rfl rfl rfl rfl ?_
        exact ih (j + 1) (A := va_up A 0 (upd (A 0) (p + j) (nI (gB0 t (f + j))))) (by omega) (DK_put (g := (fun i => gB0 t (f + i))) hd (hb _) (by omega)) (Pg_fr hP (Fr_refl [] _) (Fr_up A 0 _) (by decide) (by decide)) (fun A9 g9 h9 => kk A9 (Fr_cons (Fr_up A 0 _) g9 (by decide)) h9)
set_option maxRecDepth 100000 in
set_option maxHeartbeats 4000000 in
theorem k_31_51_n {p f c w : Nat} {t : List Nat} (h : DK (A 0) D) (hb : ∀ i, gB0 t i < 256) (hpc : p + c ≤ 2048) (hfc : f + c ≤ 32) (hP : Pg 15 4 32 I A t) (h3 : I 3 = nI w) (h1 : I 1 = nI 0) {Q : mO × mHp → Prop} (kk : ∀ I' A', Fr [2, 3] I I' → Fr [0] A A' → DK (A' 0) (dW D p c (fun i => gB0 t (f + i))) → I' 3 = nI (w + 1) → Q (.inl none, hS n u I' A' J B mk sn L xs X)) : mq 31 0 [some (.ref 2), some (.int (nI p)), some (.ref 51), some (.int (nI f)), some (.int (nI c)), none] [] (hS n u I A J B mk sn L xs X) Q := by
  refine x_const (pc := 0) (pc' := 1) (.int (nI 0)) rfl rfl rfl rfl ?_
  refine x_is2 (pc := 1) (ml' := [some (.ref 2), some (.int (nI p)), some (.ref 51), some (.int (nI f)), some (.int (nI c)), some (.int (nI 0))]) rfl rfl ?_
  refine l_31_51 (t := t) hb hpc hfc c 0 (Nat.zero_add c) (by rw [dW_0]; exact h) hP (fun A9 g9 h9 => ?_)
  refine x_al1 (pc := 52) rfl rfl ?_
  refine x_step (pc := 53) (pc' := 54) (st' := [.ref 2, .ref 2]) rfl rfl rfl rfl ?_
  refine g_2_4 (pc := 54) (v := nI w) rfl rfl h3 ?_
  refine x_const (pc := 57) (pc' := 58) (.int (nI 1)) rfl rfl rfl rfl ?_
  refine x_iaddN (pc := 58) (c := w + 1) rfl rfl ?_
  refine p_2_4 (pc := 59) rfl rfl ?_
  refine x_al1 (pc := 62) rfl rfl ?_
  refine g_2_2 (pc := 63) (v := nI 0) rfl rfl h1 ?_
  refine x_ifN_eq (pc := 66) (t := 79) rfl rfl (by decide) (fun _ => ?_) (fun c => absurd c (by decide))
  refine x_ret (pc := 79) rfl rfl ?_
  exact kk _ _ (Fr_u (Fr_refl _ _) (by decide)) (Fr_cons (Fr_refl _ _) g9 (by decide)) h9 rfl
set_option maxRecDepth 100000 in
set_option maxHeartbeats 4000000 in
theorem k_31_51_s {p f c w : Nat} {t : List Nat} (h : DK (A 0) D) (hb : ∀ i, gB0 t i < 256) (hpc : p + c ≤ 2048) (hfc : f + c ≤ 32) (hP : Pg 15 4 32 I A t) (h3 : I 3 = nI w) {k : Nat} (h1 : I 1 = nI 1) (h2 : I 2 = nI (k + 1)) (hk : k + 1 < 2 ^ 31) {Q : mO × mHp → Prop} (kk : ∀ I' A', Fr [2, 3] I I' → Fr [0] A A' → DK (A' 0) (dW D p c (fun i => gB0 t (f + i))) → I' 3 = nI (w + 1) → I' 2 = nI k → Q (.inl none, hS n u I' A' J B mk sn L xs X)) : mq 31 0 [some (.ref 2), some (.int (nI p)), some (.ref 51), some (.int (nI f)), some (.int (nI c)), none] [] (hS n u I A J B mk sn L xs X) Q := by
  refine x_const (pc := 0) (pc' := 1) (.int (nI 0)) rfl rfl rfl rfl ?_
  refine x_is2 (pc := 1) (ml' := [some (.ref 2), some (.int (nI p)), some (.ref 51), some (.int (nI f)), some (.int (nI c)), some (.int (nI 0))]) rfl rfl ?_
  refine l_31_51 (t := t) hb hpc hfc c 0 (Nat.zero_add c) (by rw [dW_0]; exact h) hP (fun A9 g9 h9 => ?_)
  refine x_al1 (pc := 52) rfl rfl ?_
  refine x_step (pc := 53) (pc' := 54) (st' := [.ref 2, .ref 2]) rfl rfl rfl rfl ?_
  refine g_2_4 (pc := 54) (v := nI w) rfl rfl h3 ?_
  refine x_const (pc := 57) (pc' := 58) (.int (nI 1)) rfl rfl rfl rfl ?_
  refine x_iaddN (pc := 58) (c := w + 1) rfl rfl ?_
  refine p_2_4 (pc := 59) rfl rfl ?_
  refine x_al1 (pc := 62) rfl rfl ?_
  refine g_2_2 (pc := 63) (v := nI 1) rfl rfl h1 ?_
  refine x_ifN_eq (pc := 66) (t := 79) rfl rfl (by decide) (fun c => absurd c (by decide)) (fun _ => ?_)
  refine x_al1 (pc := 69) rfl rfl ?_
  refine x_step (pc := 70) (pc' := 71) (st' := [.ref 2, .ref 2]) rfl rfl rfl rfl ?_
  refine g_2_3 (pc := 71) (v := nI (k + 1)) rfl rfl h2 ?_
  refine x_const (pc := 74) (pc' := 75) (.int (nI 1)) rfl rfl rfl rfl ?_
  refine x_isubV (pc := 75) (v := nI k) rfl ((pk_sub (by omega)).trans rfl) ?_
  refine p_2_3 (pc := 76) rfl rfl ?_
  refine x_ret (pc := 79) rfl rfl ?_
  exact kk _ _ (Fr_u (Fr_u (Fr_refl _ _) (by decide)) (by decide)) (Fr_cons (Fr_refl _ _) g9 (by decide)) h9 rfl rfl
set_option maxRecDepth 100000 in
set_option maxHeartbeats 4000000 in
theorem k_28_51 {p f c : Nat} {t : List Nat} {S : DS} (hD : kD mk S I A) (ho : dO S = false) (hmk : mks mk sn) (hb : ∀ i, gB0 t i < 256) (hpc : p + c ≤ 2048) (hfc : f + c ≤ 32) (hP : Pg 15 4 32 I A t) (hn : 77 ≤ n ∧ n < 10000) (hu : u + 6 < 1000000) {Q : mO × mHp → Prop} (kk : dO (wr1 S (wi p c (fun i => gB0 t (f + i)))) = false → ∀ I' A', Fr [2, 3] I I' → Fr [0] A A' → kD mk (wr1 S (wi p c (fun i => gB0 t (f + i)))) I' A' → Q (.inl none, hS n u I' A' J B mk sn L xs X)) (kx : dO (wr1 S (wi p c (fun i => gB0 t (f + i)))) = true → ∀ I' A', Up 60 I I' → Up 50 A A' → kD mk (wr1 S (wi p c (fun i => gB0 t (f + i)))) I' A' → Q (.inr n, hS (n + 1) (u + 6) I' A' J B mk sn L xs (va_up X n (.inr (9, []))))) : mq 28 0 [some (.ref 1), some (.int (nI p)), some (.ref 51), some (.int (nI f)), some (.int (nI c))] [] (hS n u I A J B mk sn L xs X) Q := by
  have hc := hD.1.2.1 ho
  rcases eC : dC S with _ | _ | k
  · rw [eC] at hc
    refine x_al1 (pc := 0) rfl rfl ?_
    refine g_1_0 (pc := 1) rfl rfl ?_
    refine x_k (pc := 4) rfl rfl rfl ⟨Nat.le_of_ble_eq_true rfl, Nat.le_of_ble_eq_true rfl, Nat.le_of_ble_eq_true rfl⟩ rfl (k_29_n (I := I) (A := A) hc ?_)
    show mq 28 7 [some (.ref 1), some (.int (nI p)), some (.ref 51), some (.int (nI f)), some (.int (nI c))] [.int (nI 0)] (hS n u I A J B mk sn L xs X) _
    refine x_ifN_eq (pc := 7) (t := 32) rfl rfl (by decide) (fun _ => ?_) (fun c => absurd c (by decide))
    refine x_al1 (pc := 32) rfl rfl ?_
    refine g_1_0 (pc := 33) rfl rfl ?_
    refine x_il1 (pc := 36) rfl rfl ?_
    refine x_al1 (pc := 37) rfl rfl ?_
    refine x_il1 (pc := 38) rfl rfl ?_
    refine x_il2 (pc := 39) rfl rfl ?_
    refine x_k (pc := 41) rfl rfl rfl ⟨Nat.le_of_ble_eq_true rfl, Nat.le_of_ble_eq_true rfl, Nat.le_of_ble_eq_true rfl⟩ rfl (k_31_51_n (I := I) (A := A) (D := dD S) (t := t) hD.2.1 hb hpc hfc hP hD.1.2.2 hc (fun I1 A1 f1 g1 h1 w1 => ?_))
    show mq 28 44 [some (.ref 1), some (.int (nI p)), some (.ref 51), some (.int (nI f)), some (.int (nI c))] [] (hS n u I1 A1 J B mk sn L xs X) _
    refine x_ret (pc := 44) rfl rfl ?_
    have e1 : wr1 S (wi p c (fun i => gB0 t (f + i))) = dS (dW (dD S) p c (fun i => gB0 t (f + i))) none (dN S + 1) false := by
      rw [wr1_on _ ho (by rw [eC]; simp), eC]
      rfl
    refine kk (by rw [e1]; rfl) I1 A1 f1 g1 ?_
    rw [e1]
    refine ⟨⟨(f1 0 (by decide)).trans ?_, fun _ => ?_, w1⟩, h1, fun q => Bool.noConfusion q⟩
    · rw [hD.1.1, ho]
      rfl
    · exact (f1 1 (by decide)).trans hc
  · rw [eC] at hc
    refine x_al1 (pc := 0) rfl rfl ?_
    refine g_1_0 (pc := 1) rfl rfl ?_
    refine x_k (pc := 4) rfl rfl rfl ⟨Nat.le_of_ble_eq_true rfl, Nat.le_of_ble_eq_true rfl, Nat.le_of_ble_eq_true rfl⟩ rfl (k_29_0 (I := I) (A := A) hc.1 hc.2.1 ?_)
    show mq 28 7 [some (.ref 1), some (.int (nI p)), some (.ref 51), some (.int (nI f)), some (.int (nI c))] [.int (nI 1)] (hS n u I A J B mk sn L xs X) _
    refine x_ifN_eq (pc := 7) (t := 32) rfl rfl (by decide) (fun c => absurd c (by decide)) (fun _ => ?_)
    refine x_al1 (pc := 10) rfl rfl ?_
    refine g_1_0 (pc := 11) rfl rfl ?_
    refine x_k (pc := 14) rfl rfl rfl ⟨Nat.le_of_ble_eq_true rfl, Nat.le_of_ble_eq_true rfl, Nat.le_of_ble_eq_true rfl⟩ rfl (k_30 (I := I) ?_)
    show mq 28 17 [some (.ref 1), some (.int (nI p)), some (.ref 51), some (.int (nI f)), some (.int (nI c))] [] (hS n u (va_up I 0 (nI 0)) A J B mk sn L xs X) _
    refine x_al1 (pc := 17) rfl rfl ?_
    refine x_k (pc := 18) rfl rfl rfl ⟨Nat.le_of_ble_eq_true rfl, Nat.le_of_ble_eq_true rfl, Nat.le_of_ble_eq_true rfl⟩ rfl (k_8 (I := va_up I 0 (nI 0)) (A := A) hmk (fun I1 A1 f1 g1 h1 => ?_))
    show mq 28 21 [some (.ref 1), some (.int (nI p)), some (.ref 51), some (.int (nI f)), some (.int (nI c))] [] (hS n u I1 A1 J B mk sn L xs X) _
    refine x_thr (pc := 21) rfl rfl hn hu rfl ⟨Nat.le_of_ble_eq_true rfl, Nat.le_of_ble_eq_true rfl⟩ ?_
    have e1 : wr1 S (wi p c (fun i => gB0 t (f + i))) = dS (dD S) none (dN S) true := wr1_due _ ho eC
    refine kx (by rw [e1]; rfl) I1 A1 (Up_tr (Up_fr (Fr_up I 0 (nI 0)) (by decide)) (Up_fr f1 (by decide))) (Up_fr g1 (by decide)) ?_
    rw [e1]
    refine ⟨⟨(f1 0 (by decide)).trans rfl, fun q => Bool.noConfusion q, ?_⟩, ?_, fun _ => h1⟩
    · exact (f1 3 (by decide)).trans hD.1.2.2
    · rw [g1 0 (by decide)]
      exact hD.2.1
  · rw [eC] at hc
    refine x_al1 (pc := 0) rfl rfl ?_
    refine g_1_0 (pc := 1) rfl rfl ?_
    refine x_k (pc := 4) rfl rfl rfl ⟨Nat.le_of_ble_eq_true rfl, Nat.le_of_ble_eq_true rfl, Nat.le_of_ble_eq_true rfl⟩ rfl (k_29_s (I := I) (A := A) hc.1 hc.2.1 hc.2.2 ?_)
    show mq 28 7 [some (.ref 1), some (.int (nI p)), some (.ref 51), some (.int (nI f)), some (.int (nI c))] [.int (nI 0)] (hS n u I A J B mk sn L xs X) _
    refine x_ifN_eq (pc := 7) (t := 32) rfl rfl (by decide) (fun _ => ?_) (fun c => absurd c (by decide))
    refine x_al1 (pc := 32) rfl rfl ?_
    refine g_1_0 (pc := 33) rfl rfl ?_
    refine x_il1 (pc := 36) rfl rfl ?_
    refine x_al1 (pc := 37) rfl rfl ?_
    refine x_il1 (pc := 38) rfl rfl ?_
    refine x_il2 (pc := 39) rfl rfl ?_
    refine x_k (pc := 41) rfl rfl rfl ⟨Nat.le_of_ble_eq_true rfl, Nat.le_of_ble_eq_true rfl, Nat.le_of_ble_eq_true rfl⟩ rfl (k_31_51_s (I := I) (A := A) (D := dD S) (t := t) hD.2.1 hb hpc hfc hP hD.1.2.2 hc.1 hc.2.1 hc.2.2 (fun I1 A1 f1 g1 h1 w1 u1 => ?_))
    show mq 28 44 [some (.ref 1), some (.int (nI p)), some (.ref 51), some (.int (nI f)), some (.int (nI c))] [] (hS n u I1 A1 J B mk sn L xs X) _
    refine x_ret (pc := 44) rfl rfl ?_
    have e1 : wr1 S (wi p c (fun i => gB0 t (f + i))) = dS (dW (dD S) p c (fun i => gB0 t (f + i))) (some k) (dN S + 1) false := by
      rw [wr1_on _ ho (by rw [eC]; simp), eC]
      rfl
    refine kk (by rw [e1]; rfl) I1 A1 f1 g1 ?_
    rw [e1]
    refine ⟨⟨(f1 0 (by decide)).trans ?_, fun _ => ?_, w1⟩, h1, fun q => Bool.noConfusion q⟩
    · rw [hD.1.1, ho]
      rfl
    · exact ⟨(f1 1 (by decide)).trans hc.1, u1, Nat.lt_of_succ_lt hc.2.2⟩
end S48
