/-! Fetch: the class. -/
/-- the segment in which a fetch begins -/
def gF (D : Nat → Nat) (f : Nat → Nat) (o : Int32) : Nat → Nat → Nat → Nat
  | 0, _, r => r
  | z + 1, i, r => gF D f o z (i + 1) (if nI (bB D (f i)) ≤ o then i else r)
def dF (D : Nat → Nat) (f : Nat → Nat) (o : Int32) : Nat → Nat
  | 0 => 0
  | k + 1 => if nI (bB D (f (k + 1))) ≤ o then k + 1 else dF D f o k
theorem gF_snoc (D : Nat → Nat) (f : Nat → Nat) (o : Int32) : ∀ z i r, gF D f o (z + 1) i r = if nI (bB D (f (i + z))) ≤ o then i + z else gF D f o z i r
  | 0, i, r => rfl
  | z + 1, i, r => by
    show gF D f o (z + 1) (i + 1) _ = _
    rw [gF_snoc D f o z (i + 1), show i + 1 + z = i + (z + 1) by omega]
    rfl
theorem gF_eq (D : Nat → Nat) (f : Nat → Nat) (o : Int32) : ∀ z, gF D f o z 1 0 = dF D f o z
  | 0 => rfl
  | z + 1 => by
    rw [gF_snoc, gF_eq D f o z, show 1 + z = z + 1 by omega]
    rfl
theorem dF_le (D : Nat → Nat) (f : Nat → Nat) (o : Int32) : ∀ z, dF D f o z ≤ z
  | 0 => Nat.le_refl 0
  | z + 1 => by
    have := dF_le D f o z
    unfold dF
    split <;> omega
section S38
variable {n u : Nat} {I : Nat → Int32} {A : Nat → Nat → Int32} {J : Int64} {B : Nat → Int64} {mk sn L : Nat} {xs : Nat → Int32} {X : Nat → mC} {D : Nat → Nat} 
set_option maxRecDepth 100000 in
set_option maxHeartbeats 4000000 in
theorem l_78_0 (h : DK (A 0) D) {cn : Nat} {f : Nat → Nat} {o : Int32} (hcn : cn ≤ 16) (hf : ∀ k, k < cn → f k < 16) (hc : I 40 = nI cn) (hsl : ∀ j, j < cn → A 30 j = nI (f j)) {Q : mO × mHp → Prop} : ∀ (z k r : Nat) , (cn ≤ k + z ∧ k + z ≤ 16 ∧ (0 < z → k + z = cn)) → (Q (.inl (some (.int (nI (gF D f o z k r)))), hS n u I A J B mk sn L xs X)) → mq 78 5 [some (.ref 1), some (.ref 13), some (.int o), some (.int (nI r)), some (.int (nI k))] [] (hS n u I A J B mk sn L xs X) Q := by
  intro z
  induction z with
  | zero =>
    intro k r  hz kk
    refine x_il2 (pc := 5) rfl rfl ?_
    refine x_al1 (pc := 7) rfl rfl ?_
    refine g_13_5 (pc := 8) (v := nI cn) rfl rfl hc ?_
    refine x_cmpN_ge (pc := 11) (t := 41) rfl rfl (by omega) (by omega) (fun c11 => ?_) (fun c11 => ?_)
    · refine x_il1 (pc := 41) rfl rfl ?_
      refine x_ret (pc := 42) rfl rfl ?_
      exact kk
    · omega
  | succ z ih =>
    intro k r  hz kk
    refine x_il2 (pc := 5) rfl rfl ?_
    refine x_al1 (pc := 7) rfl rfl ?_
    refine g_13_5 (pc := 8) (v := nI cn) rfl rfl hc ?_
    refine x_cmpN_ge (pc := 11) (t := 41) rfl rfl (by omega) (by omega) (fun c11 => ?_) (fun c11 => ?_)
    · omega
    · refine x_al1 (pc := 14) rfl rfl ?_
      refine g_1_0 (pc := 15) rfl rfl ?_
      refine x_al1 (pc := 18) rfl rfl ?_
      refine g_13_1 (pc := 19) rfl rfl ?_
      refine x_il2 (pc := 22) rfl rfl ?_
      refine al_14 (pc := 24) (q := k) (v := nI (f k)) rfl rfl (by omega) (hsl k (by omega)) ?_
      refine x_k (pc := 25) rfl rfl rfl ⟨Nat.le_of_ble_eq_true rfl, Nat.le_of_ble_eq_true rfl, Nat.le_of_ble_eq_true rfl⟩ rfl (mq_k (c_22 h (hf k (by omega))) ?_)
      show mq 78 28 [some (.ref 1), some (.ref 13), some (.int o), some (.int (nI r)), some (.int (nI k))] [.int (nI (bB D (f k)))] (hS n u I A J B mk sn L xs X) _
      refine x_il1 (pc := 28) rfl rfl ?_
      refine x_cmp_gt (pc := 29) (t := 35) rfl rfl rfl (fun c29 => ?_) (fun c29 => ?_)
      · refine x_iincN (pc := 35) (c := 1) (ml' := [some (.ref 1), some (.ref 13), some (.int o), some (.int (nI r)), some (.int (nI (k + 1)))]) rfl rfl rfl rfl ?_
        refine x_step (pc := 38) (pc' := 5) rfl rfl rfl rfl ?_
        have ev : gF D f o (z + 1) k r = gF D f o z (k + 1) r := by
          conv => lhs; unfold gF
          rw [if_neg (Int32.not_le.mpr c29)]
        rw [ev] at kk
        exact ih (k + 1) r (by omega) kk
      · refine x_il2 (pc := 32) rfl rfl ?_
        refine x_is1 (pc := 34) (ml' := [some (.ref 1), some (.ref 13), some (.int o), some (.int (nI k)), some (.int (nI k))]) rfl rfl ?_
        refine x_iincN (pc := 35) (c := 1) (ml' := [some (.ref 1), some (.ref 13), some (.int o), some (.int (nI k)), some (.int (nI (k + 1)))]) rfl rfl rfl rfl ?_
        refine x_step (pc := 38) (pc' := 5) rfl rfl rfl rfl ?_
        have ev : gF D f o (z + 1) k r = gF D f o z (k + 1) k := by
          conv => lhs; unfold gF
          rw [if_pos (Int32.not_lt.mp c29)]
        rw [ev] at kk
        exact ih (k + 1) k (by omega) kk
set_option maxRecDepth 100000 in
set_option maxHeartbeats 4000000 in
theorem k_78_0 (h : DK (A 0) D) {cn : Nat} {f : Nat → Nat} {o : Int32} (hcn : cn ≤ 16) (hf : ∀ k, k < cn → f k < 16) (hc : I 40 = nI cn) (hsl : ∀ j, j < cn → A 30 j = nI (f j)) {Q : mO × mHp → Prop} (kk : Q (.inl (some (.int (nI (dF D f o (cn - 1))))), hS n u I A J B mk sn L xs X)) : mq 78 0 [some (.ref 1), some (.ref 13), some (.int o), none, none] [] (hS n u I A J B mk sn L xs X) Q := by
  refine x_const (pc := 0) (pc' := 1) (.int (nI 0)) rfl rfl rfl rfl ?_
  refine x_is1 (pc := 1) (ml' := [some (.ref 1), some (.ref 13), some (.int o), some (.int (nI 0)), none]) rfl rfl ?_
  refine x_const (pc := 2) (pc' := 3) (.int (nI 1)) rfl rfl rfl rfl ?_
  refine x_is2 (pc := 3) (ml' := [some (.ref 1), some (.ref 13), some (.int o), some (.int (nI 0)), some (.int (nI 1))]) rfl rfl ?_
  rw [← gF_eq] at kk
  exact l_78_0 h hcn hf hc hsl (cn - 1) 1 0 (by omega) kk
set_option maxRecDepth 100000 in
set_option maxHeartbeats 4000000 in
theorem k_77_0 {o a b : Int32} (ha : I 41 = a) (hb : I 42 = b) (h1 : ¬ o < a) (h2 : o ≤ b) {Q : mO × mHp → Prop} (kk : Q (.inl none, hS n u I A J B mk sn L xs X)) : mq 77 0 [some (.ref 1), some (.ref 13), some (.int o)] [] (hS n u I A J B mk sn L xs X) Q := by
  refine x_il1 (pc := 0) rfl rfl ?_
  refine x_al1 (pc := 1) rfl rfl ?_
  refine g_13_6 (pc := 2) (v := a) rfl rfl ha ?_
  refine x_cmp_lt (pc := 5) (t := 16) rfl rfl rfl (fun c5 => ?_) (fun c5 => ?_)
  · exact absurd c5 h1
  · refine x_il1 (pc := 8) rfl rfl ?_
    refine x_al1 (pc := 9) rfl rfl ?_
    refine g_13_7 (pc := 10) (v := b) rfl rfl hb ?_
    refine x_cmp_le (pc := 13) (t := 27) rfl rfl rfl (fun c13 => ?_) (fun c13 => ?_)
    · refine x_ret (pc := 27) rfl rfl ?_
      exact kk
    · exact absurd h2 c13
set_option maxRecDepth 100000 in
set_option maxHeartbeats 4000000 in
theorem k_77x_0 {o a b : Int32} (ha : I 41 = a) (hb : I 42 = b) (hx : o < a ∨ ¬ o ≤ b) (hn : 77 ≤ n ∧ n < 10000) (hu : u + 6 < 1000000) {Q : mO × mHp → Prop} (kk : Q (.inr n, hS (n + 1) (u + 6) I A J B mk sn L xs (va_up X n (.inr (12, []))))) : mq 77 0 [some (.ref 1), some (.ref 13), some (.int o)] [] (hS n u I A J B mk sn L xs X) Q := by
  refine x_il1 (pc := 0) rfl rfl ?_
  refine x_al1 (pc := 1) rfl rfl ?_
  refine g_13_6 (pc := 2) (v := a) rfl rfl ha ?_
  refine x_cmp_lt (pc := 5) (t := 16) rfl rfl rfl (fun c5 => ?_) (fun c5 => ?_)
  · refine x_thr (pc := 16) rfl rfl hn hu rfl ⟨Nat.le_of_ble_eq_true rfl, Nat.le_of_ble_eq_true rfl⟩ ?_
    exact kk
  · refine x_il1 (pc := 8) rfl rfl ?_
    refine x_al1 (pc := 9) rfl rfl ?_
    refine g_13_7 (pc := 10) (v := b) rfl rfl hb ?_
    refine x_cmp_le (pc := 13) (t := 27) rfl rfl rfl (fun c13 => ?_) (fun c13 => ?_)
    · exact absurd hx (fun q => q.elim c5 (fun q => q c13))
    · refine x_thr (pc := 16) rfl rfl hn hu rfl ⟨Nat.le_of_ble_eq_true rfl, Nat.le_of_ble_eq_true rfl⟩ ?_
      exact kk
set_option maxRecDepth 100000 in
set_option maxHeartbeats 4000000 in
theorem l_76_0 {cn nn fi : Nat} {f bc : Nat → Nat} {o : Int32} (hcn : cn ≤ 16) (hf : ∀ k, k < cn → f k < 16 ∧ WS D (f k) (bc (f k))) (hnn : nn ≤ 8) {Q : mO × mHp → Prop} : ∀ (z k : Nat) (l : List R5) (x : Int32) (w6 : Option Value) {I : Nat → Int32} {A : Nat → Nat → Int32}, (DK (A 0) D) → (k + z = cn) → (fi < k) → (I 40 = nI cn) → (∀ j, j < cn → A 30 j = nI (f j)) → (l.length ≤ nn) → (FC I A l) → (I 11 = x) → (∀ I' A', Fr [4, 5, 6, 7, 8, 9, 10, 11, 16, 20, 21, 22] I I' → Fr [5, 6, 7, 8, 9, 10, 11, 12, 13, 14] A A' → FC I' A' (fG D f bc o nn z k 0 l x).1 → I' 11 = (fG D f bc o nn z k 0 l x).2 → Q (.inl (some (.int (nI (fG D f bc o nn z k 0 l x).1.length))), hS n u I' A' J B mk sn L xs X)) → mq 76 73 [some (.ref 1), some (.int (nI 0)), some (.int o), some (.int (nI nn)), some (.int (nI fi)), some (.int (nI k)), w6] [] (hS n u I A J B mk sn L xs X) Q := by
  intro z
  induction z with
  | zero =>
    intro k l x w6 I A h hz hfi hc hsl hln hF h11 kk
    refine x_il2 (pc := 73) rfl rfl ?_
    refine x_al1 (pc := 75) rfl rfl ?_
    refine g_1_2 (pc := 76) rfl rfl ?_
    refine x_il1 (pc := 79) rfl rfl ?_
    refine aal (pc := 80) (q := 0) (a := 13) rfl rfl (by decide) rfl ?_
    refine g_13_5 (pc := 81) (v := nI cn) rfl rfl hc ?_
    refine x_cmpN_ge (pc := 84) (t := 145) rfl rfl (by omega) (by omega) (fun c84 => ?_) (fun c84 => ?_)
    · refine x_al1 (pc := 145) rfl rfl ?_
      refine g_1_4 (pc := 146) rfl rfl ?_
      refine g_34_5 (pc := 149) (v := nI l.length) rfl rfl hF.1 ?_
      refine x_ret (pc := 152) rfl rfl ?_
      exact kk I A (Fr_refl _ _) (Fr_refl _ _) hF h11
    · omega
  | succ z ih =>
    intro k l x w6 I A h hz hfi hc hsl hln hF h11 kk
    refine x_il2 (pc := 73) rfl rfl ?_
    refine x_al1 (pc := 75) rfl rfl ?_
    refine g_1_2 (pc := 76) rfl rfl ?_
    refine x_il1 (pc := 79) rfl rfl ?_
    refine aal (pc := 80) (q := 0) (a := 13) rfl rfl (by decide) rfl ?_
    refine g_13_5 (pc := 81) (v := nI cn) rfl rfl hc ?_
    refine x_cmpN_ge (pc := 84) (t := 145) rfl rfl (by omega) (by omega) (fun c84 => ?_) (fun c84 => ?_)
    · omega
    · refine x_al1 (pc := 87) rfl rfl ?_
      refine g_1_4 (pc := 88) rfl rfl ?_
      refine g_34_5 (pc := 91) (v := nI l.length) rfl rfl hF.1 ?_
      refine x_il1 (pc := 94) rfl rfl ?_
      refine x_cmpN_ge (pc := 95) (t := 145) rfl rfl (by omega) (by omega) (fun c95 => ?_) (fun c95 => ?_)
      · have ev : fG D f bc o nn (z + 1) k 0 l x = (l, x) := by
          unfold fG
          rw [if_pos c95]
        rw [ev] at kk
        refine x_al1 (pc := 145) rfl rfl ?_
        refine g_1_4 (pc := 146) rfl rfl ?_
        refine g_34_5 (pc := 149) (v := nI l.length) rfl rfl hF.1 ?_
        refine x_ret (pc := 152) rfl rfl ?_
        exact kk I A (Fr_refl _ _) (Fr_refl _ _) hF h11
      · refine x_al1 (pc := 98) rfl rfl ?_
        refine g_1_2 (pc := 99) rfl rfl ?_
        refine x_il1 (pc := 102) rfl rfl ?_
        refine aal (pc := 103) (q := 0) (a := 13) rfl rfl (by decide) rfl ?_
        refine g_13_1 (pc := 104) rfl rfl ?_
        refine x_il2 (pc := 107) rfl rfl ?_
        refine al_14 (pc := 109) (q := k) (v := nI (f k)) rfl rfl (by omega) (hsl k (by omega)) ?_
        refine x_is2 (pc := 110) (ml' := [some (.ref 1), some (.int (nI 0)), some (.int o), some (.int (nI nn)), some (.int (nI fi)), some (.int (nI k)), some (.int (nI (f k)))]) rfl rfl ?_
        refine x_al1 (pc := 112) rfl rfl ?_
        refine x_il2 (pc := 113) rfl rfl ?_
        refine x_il2 (pc := 115) rfl rfl ?_
        refine x_il2 (pc := 117) rfl rfl ?_
        refine x_cmpN_ne (pc := 119) (t := 132) rfl rfl (by omega) (by omega) (fun c119 => ?_) (fun c119 => ?_)
        · refine x_const (pc := 132) (pc' := 134) (.int (nI 8)) rfl rfl rfl rfl ?_
          refine x_top (y := nI (pb D (f k) 0)) (congrArg nI (pb_0 D (f k)).symm) ?_
          refine x_il1 (pc := 134) rfl rfl ?_
          refine x_il1 (pc := 135) rfl rfl ?_
          refine x_k (pc := 136) rfl rfl rfl ⟨Nat.le_of_ble_eq_true rfl, Nat.le_of_ble_eq_true rfl, Nat.le_of_ble_eq_true rfl⟩ rfl (k_80 (I := I) (A := A) (j := 0) (c := bc (f k)) h (hf k (by omega)).1 (hf k (by omega)).2 (Nat.zero_le _) hnn hln hF h11 (fun I9 A9 f9 g9 hF9 e9 => ?_))
          show mq 76 139 [some (.ref 1), some (.int (nI 0)), some (.int o), some (.int (nI nn)), some (.int (nI fi)), some (.int (nI k)), some (.int (nI (f k)))] [] (hS n u I9 A9 J B mk sn L xs X) _
          refine x_iincN (pc := 139) (c := 1) (ml' := [some (.ref 1), some (.int (nI 0)), some (.int o), some (.int (nI nn)), some (.int (nI fi)), some (.int (nI (k + 1))), some (.int (nI (f k)))]) rfl rfl rfl rfl ?_
          refine x_step (pc := 142) (pc' := 73) rfl rfl rfl rfl ?_
          have ev : fG D f bc o nn (z + 1) k 0 l x = fG D f bc o nn z (k + 1) 0 (fB D (f k) o nn (bc (f k) - 0) 0 l x).1 (fB D (f k) o nn (bc (f k) - 0) 0 l x).2 := by
            conv => lhs; unfold fG
            rw [if_neg c95]
          rw [ev] at kk
          exact ih (k + 1) _ _ _ (I := I9) (A := A9) (by rw [g9 0 (by decide)]; exact h) (by omega) (by omega) ((f9 40 (by decide)).trans hc) (fun j hj => by rw [g9 30 (by decide)]; exact hsl j hj) (fB_len _ _ _ _ _ _ _ _ hln) hF9 e9 (fun I2 A2 f2 g2 hF2 e2 => kk I2 A2 (Fr_cons (Fr_cons (Fr_refl _ _) f9 (by decide)) f2 (by decide)) (Fr_cons (Fr_cons (Fr_refl _ _) g9 (by decide)) g2 (by decide)) hF2 e2)
        · omega
set_option maxRecDepth 100000 in
set_option maxHeartbeats 4000000 in
theorem k_76_0 (h : DK (A 0) D) {cn nn : Nat} {f bc : Nat → Nat} {o a b : Int32} (hcn : cn ≤ 16) (hf : ∀ k, k < cn → f k < 16 ∧ WS D (f k) (bc (f k))) (hn1 : 1 ≤ nn) (hnn : nn ≤ 8) (h0 : I 0 = nI 1) (hc : I 40 = nI cn) (ha : I 41 = a) (hb : I 42 = b) (h1 : ¬ o < a) (h2 : o ≤ b) (hsl : ∀ j, j < cn → A 30 j = nI (f j)) {Q : mO × mHp → Prop} (kk : ∀ I' A', Fr [4, 5, 6, 7, 8, 9, 10, 11, 16, 20, 21, 22] I I' → Fr [5, 6, 7, 8, 9, 10, 11, 12, 13, 14] A A' → FC I' A' (fG D f bc o nn (cn - dF D f o (cn - 1)) (dF D f o (cn - 1)) (eB D (f (dF D f o (cn - 1))) o (bc (f (dF D f o (cn - 1)))) 0 8 0) [] (nI 0)).1 → I' 11 = (fG D f bc o nn (cn - dF D f o (cn - 1)) (dF D f o (cn - 1)) (eB D (f (dF D f o (cn - 1))) o (bc (f (dF D f o (cn - 1)))) 0 8 0) [] (nI 0)).2 → Q (.inl (some (.int (nI (fG D f bc o nn (cn - dF D f o (cn - 1)) (dF D f o (cn - 1)) (eB D (f (dF D f o (cn - 1))) o (bc (f (dF D f o (cn - 1)))) 0 8 0) [] (nI 0)).1.length))), hS n u I' A' J B mk sn L xs X)) : mq 76 0 [some (.ref 1), some (.int (nI 0)), some (.int o), some (.int (nI nn)), none, none, none] [] (hS n u I A J B mk sn L xs X) Q := by
  refine x_al1 (pc := 0) rfl rfl ?_
  refine x_k (pc := 1) rfl rfl rfl ⟨Nat.le_of_ble_eq_true rfl, Nat.le_of_ble_eq_true rfl, Nat.le_of_ble_eq_true rfl⟩ rfl (k_60 (I := I) (A := A) h0 ?_)
  show mq 76 4 [some (.ref 1), some (.int (nI 0)), some (.int o), some (.int (nI nn)), none, none, none] [] (hS n u I A J B mk sn L xs X) _
  refine x_il1 (pc := 4) rfl rfl ?_
  refine x_k (pc := 5) rfl rfl rfl ⟨Nat.le_of_ble_eq_true rfl, Nat.le_of_ble_eq_true rfl, Nat.le_of_ble_eq_true rfl⟩ rfl (k_48 (I := I) (A := A) (by decide) ?_)
  show mq 76 8 [some (.ref 1), some (.int (nI 0)), some (.int o), some (.int (nI nn)), none, none, none] [.int (nI 1)] (hS n u I A J B mk sn L xs X) _
  refine x_ifN_eq (pc := 8) (t := 22) rfl rfl (by decide) (fun c => absurd c (by decide)) (fun _ => ?_)
  refine x_il1 (pc := 11) rfl rfl ?_
  refine x_const (pc := 12) (pc' := 13) (.int (nI 1)) rfl rfl rfl rfl ?_
  refine x_cmpN_lt (pc := 13) (t := 22) rfl rfl (by omega) (by omega) (fun c13 => ?_) (fun c13 => ?_)
  · omega
  · refine x_il1 (pc := 16) rfl rfl ?_
    refine x_const (pc := 17) (pc' := 19) (.int (nI 8)) rfl rfl rfl rfl ?_
    refine x_cmpN_le (pc := 19) (t := 32) rfl rfl (by omega) (by omega) (fun c19 => ?_) (fun c19 => ?_)
    · refine x_al1 (pc := 32) rfl rfl ?_
      refine x_al1 (pc := 33) rfl rfl ?_
      refine g_1_2 (pc := 34) rfl rfl ?_
      refine x_il1 (pc := 37) rfl rfl ?_
      refine aal (pc := 38) (q := 0) (a := 13) rfl rfl (by decide) rfl ?_
      refine x_il1 (pc := 39) rfl rfl ?_
      refine x_k (pc := 40) rfl rfl rfl ⟨Nat.le_of_ble_eq_true rfl, Nat.le_of_ble_eq_true rfl, Nat.le_of_ble_eq_true rfl⟩ rfl (k_77_0 (I := I) (A := A) ha hb h1 h2 ?_)
      show mq 76 43 [some (.ref 1), some (.int (nI 0)), some (.int o), some (.int (nI nn)), none, none, none] [] (hS n u I A J B mk sn L xs X) _
      refine x_al1 (pc := 43) rfl rfl ?_
      refine g_1_4 (pc := 44) rfl rfl ?_
      refine x_const (pc := 47) (pc' := 48) (.int (nI 0)) rfl rfl rfl rfl ?_
      refine p_34_5 (pc := 48) rfl rfl ?_
      refine x_al1 (pc := 51) rfl rfl ?_
      refine x_const (pc := 52) (pc' := 53) (.int (nI 0)) rfl rfl rfl rfl ?_
      refine p_1_11 (pc := 53) rfl rfl ?_
      refine x_al1 (pc := 56) rfl rfl ?_
      refine x_al1 (pc := 57) rfl rfl ?_
      refine g_1_2 (pc := 58) rfl rfl ?_
      refine x_il1 (pc := 61) rfl rfl ?_
      refine aal (pc := 62) (q := 0) (a := 13) rfl rfl (by decide) rfl ?_
      refine x_il1 (pc := 63) rfl rfl ?_
      refine x_k (pc := 64) rfl rfl rfl ⟨Nat.le_of_ble_eq_true rfl, Nat.le_of_ble_eq_true rfl, Nat.le_of_ble_eq_true rfl⟩ rfl (k_78_0 (I := va_up (va_up I 16 (nI 0)) 11 (nI 0)) (A := A) (o := o) h hcn (fun k hk => (hf k hk).1) hc hsl ?_)
      show mq 76 67 [some (.ref 1), some (.int (nI 0)), some (.int o), some (.int (nI nn)), none, none, none] [.int (nI (dF D f o (cn - 1)))] (hS n u (va_up (va_up I 16 (nI 0)) 11 (nI 0)) A J B mk sn L xs X) _
      refine x_is2 (pc := 67) (ml' := [some (.ref 1), some (.int (nI 0)), some (.int o), some (.int (nI nn)), some (.int (nI (dF D f o (cn - 1)))), none, none]) rfl rfl ?_
      refine x_il2 (pc := 69) rfl rfl ?_
      refine x_is2 (pc := 71) (ml' := [some (.ref 1), some (.int (nI 0)), some (.int o), some (.int (nI nn)), some (.int (nI (dF D f o (cn - 1)))), some (.int (nI (dF D f o (cn - 1)))), none]) rfl rfl ?_
      obtain ⟨k, hkd⟩ : ∃ k, k = dF D f o (cn - 1) := ⟨_, rfl⟩
      have hkl := dF_le D f o (cn - 1)
      rw [← hkd] at hkl ⊢
      rw [← hkd] at kk
      rcases Nat.eq_zero_or_pos cn with hk0 | hk0
      · have ek : cn - k = 0 := by omega
        rw [ek] at kk
        refine x_il2 (pc := 73) rfl rfl ?_
        refine x_al1 (pc := 75) rfl rfl ?_
        refine g_1_2 (pc := 76) rfl rfl ?_
        refine x_il1 (pc := 79) rfl rfl ?_
        refine aal (pc := 80) (q := 0) (a := 13) rfl rfl (by decide) rfl ?_
        refine g_13_5 (pc := 81) (v := nI 0) rfl rfl (hc.trans (congrArg nI hk0)) ?_
        refine x_cmpN_ge (pc := 84) (t := 145) rfl rfl (by omega) (by decide) (fun c84 => ?_) (fun c84 => ?_)
        · refine x_al1 (pc := 145) rfl rfl ?_
          refine g_1_4 (pc := 146) rfl rfl ?_
          refine g_34_5 (pc := 149) (v := nI 0) rfl rfl rfl ?_
          refine x_ret (pc := 152) rfl rfl ?_
          exact kk _ _ (Fr_u (Fr_u (Fr_refl _ _) (by decide)) (by decide)) (Fr_refl _ _) ⟨rfl, fun i hi => absurd hi (Nat.not_lt_zero i)⟩ rfl
        · omega
      · have hk : k < cn := by omega
        have hz : cn - k = (cn - k - 1) + 1 := by omega
        have ev : fG D f bc o nn (cn - k) k (eB D (f k) o (bc (f k)) 0 8 0) [] (nI 0) = fG D f bc o nn (cn - k - 1) (k + 1) 0 (fB D (f k) o nn (bc (f k) - eB D (f k) o (bc (f k)) 0 8 0) (eB D (f k) o (bc (f k)) 0 8 0) [] (nI 0)).1 (fB D (f k) o nn (bc (f k) - eB D (f k) o (bc (f k)) 0 8 0) (eB D (f k) o (bc (f k)) 0 8 0) [] (nI 0)).2 := by
          rw [show fG D f bc o nn (cn - k) k (eB D (f k) o (bc (f k)) 0 8 0) [] (nI 0) = fG D f bc o nn ((cn - k - 1) + 1) k (eB D (f k) o (bc (f k)) 0 8 0) [] (nI 0) from congrArg (fun z => fG D f bc o nn z k (eB D (f k) o (bc (f k)) 0 8 0) [] (nI 0)) hz]
          conv => lhs; unfold fG
          rw [if_neg (by simp; omega)]
        rw [ev] at kk
        refine x_il2 (pc := 73) rfl rfl ?_
        refine x_al1 (pc := 75) rfl rfl ?_
        refine g_1_2 (pc := 76) rfl rfl ?_
        refine x_il1 (pc := 79) rfl rfl ?_
        refine aal (pc := 80) (q := 0) (a := 13) rfl rfl (by decide) rfl ?_
        refine g_13_5 (pc := 81) (v := nI cn) rfl rfl hc ?_
        refine x_cmpN_ge (pc := 84) (t := 145) rfl rfl (by omega) (by omega) (fun c84 => ?_) (fun c84 => ?_)
        · omega
        · refine x_al1 (pc := 87) rfl rfl ?_
          refine g_1_4 (pc := 88) rfl rfl ?_
          refine g_34_5 (pc := 91) (v := nI 0) rfl rfl rfl ?_
          refine x_il1 (pc := 94) rfl rfl ?_
          refine x_cmpN_ge (pc := 95) (t := 145) rfl rfl (by decide) (by omega) (fun c95 => ?_) (fun c95 => ?_)
          · omega
          · refine x_al1 (pc := 98) rfl rfl ?_
            refine g_1_2 (pc := 99) rfl rfl ?_
            refine x_il1 (pc := 102) rfl rfl ?_
            refine aal (pc := 103) (q := 0) (a := 13) rfl rfl (by decide) rfl ?_
            refine g_13_1 (pc := 104) rfl rfl ?_
            refine x_il2 (pc := 107) rfl rfl ?_
            refine al_14 (pc := 109) (q := k) (v := nI (f k)) rfl rfl (by omega) (hsl k hk) ?_
            refine x_is2 (pc := 110) (ml' := [some (.ref 1), some (.int (nI 0)), some (.int o), some (.int (nI nn)), some (.int (nI k)), some (.int (nI k)), some (.int (nI (f k)))]) rfl rfl ?_
            refine x_al1 (pc := 112) rfl rfl ?_
            refine x_il2 (pc := 113) rfl rfl ?_
            refine x_il2 (pc := 115) rfl rfl ?_
            refine x_il2 (pc := 117) rfl rfl ?_
            refine x_cmpN_ne (pc := 119) (t := 132) rfl rfl (by omega) (by omega) (fun c119 => ?_) (fun c119 => ?_)
            · exact absurd rfl c119
            · refine x_al1 (pc := 122) rfl rfl ?_
              refine x_il2 (pc := 123) rfl rfl ?_
              refine x_il1 (pc := 125) rfl rfl ?_
              refine x_k (pc := 126) rfl rfl rfl ⟨Nat.le_of_ble_eq_true rfl, Nat.le_of_ble_eq_true rfl, Nat.le_of_ble_eq_true rfl⟩ rfl (k_79 (I := va_up (va_up I 16 (nI 0)) 11 (nI 0)) (A := A) (c := bc (f k)) (o := o) h (hf k hk).1 (hf k hk).2 (fun I8 A8 f8 g8 => ?_))
              show mq 76 129 [some (.ref 1), some (.int (nI 0)), some (.int o), some (.int (nI nn)), some (.int (nI k)), some (.int (nI k)), some (.int (nI (f k)))] [.int (nI (pb D (f k) (eB D (f k) o (bc (f k)) 0 8 0))), .int (nI (f k)), .ref 1] (hS n u I8 A8 J B mk sn L xs X) _
              refine x_step (pc := 129) (pc' := 134) rfl rfl rfl rfl ?_
              refine x_il1 (pc := 134) rfl rfl ?_
              refine x_il1 (pc := 135) rfl rfl ?_
              refine x_k (pc := 136) rfl rfl rfl ⟨Nat.le_of_ble_eq_true rfl, Nat.le_of_ble_eq_true rfl, Nat.le_of_ble_eq_true rfl⟩ rfl (k_80 (I := I8) (A := A8) (j := eB D (f k) o (bc (f k)) 0 8 0) (c := bc (f k)) (l := []) (x := nI 0) (by rw [g8 0 (by decide)]; exact h) (hf k hk).1 (hf k hk).2 (by have := eB_le D (f k) o (bc (f k)) 0 8 0 (Nat.zero_le _); omega) hnn (Nat.zero_le _) ⟨f8 16 (by decide), fun i hi => absurd hi (Nat.not_lt_zero i)⟩ (f8 11 (by decide)) (fun I9 A9 f9 g9 hF9 e9 => ?_))
              show mq 76 139 [some (.ref 1), some (.int (nI 0)), some (.int o), some (.int (nI nn)), some (.int (nI k)), some (.int (nI k)), some (.int (nI (f k)))] [] (hS n u I9 A9 J B mk sn L xs X) _
              refine x_iincN (pc := 139) (c := 1) (ml' := [some (.ref 1), some (.int (nI 0)), some (.int o), some (.int (nI nn)), some (.int (nI k)), some (.int (nI (k + 1))), some (.int (nI (f k)))]) rfl rfl rfl rfl ?_
              refine x_step (pc := 142) (pc' := 73) rfl rfl rfl rfl ?_
              exact l_76_0 hcn hf hnn (cn - k - 1) (k + 1) _ _ _ (I := I9) (A := A9) (by rw [g9 0 (by decide), g8 0 (by decide)]; exact h) (by omega) (by omega) ((f9 40 (by decide)).trans ((f8 40 (by decide)).trans hc)) (fun j hj => by rw [g9 30 (by decide), g8 30 (by decide)]; exact hsl j hj) (fB_len _ _ _ _ _ _ _ _ (Nat.zero_le _)) hF9 e9 (fun I2 A2 f2 g2 hF2 e2 => kk I2 A2 (Fr_cons (Fr_cons (Fr_cons (Fr_u (Fr_u (Fr_refl _ _) (by decide)) (by decide)) f8 (by decide)) f9 (by decide)) f2 (by decide)) (Fr_cons (Fr_cons (Fr_cons (Fr_refl _ _) g8 (by decide)) g9 (by decide)) g2 (by decide)) hF2 e2)
    · omega
set_option maxRecDepth 100000 in
set_option maxHeartbeats 4000000 in
theorem k_76o_0 {nn : Nat} {o a b : Int32} (hn1 : 1 ≤ nn) (hnn : nn ≤ 8) (h0 : I 0 = nI 1) (ha : I 41 = a) (hb : I 42 = b) (hx : o < a ∨ ¬ o ≤ b) (hn : 77 ≤ n ∧ n < 10000) (hu : u + 6 < 1000000) {Q : mO × mHp → Prop} (kk : Q (.inr n, hS (n + 1) (u + 6) I A J B mk sn L xs (va_up X n (.inr (12, []))))) : mq 76 0 [some (.ref 1), some (.int (nI 0)), some (.int o), some (.int (nI nn)), none, none, none] [] (hS n u I A J B mk sn L xs X) Q := by
  refine x_al1 (pc := 0) rfl rfl ?_
  refine x_k (pc := 1) rfl rfl rfl ⟨Nat.le_of_ble_eq_true rfl, Nat.le_of_ble_eq_true rfl, Nat.le_of_ble_eq_true rfl⟩ rfl (k_60 (I := I) (A := A) h0 ?_)
  show mq 76 4 [some (.ref 1), some (.int (nI 0)), some (.int o), some (.int (nI nn)), none, none, none] [] (hS n u I A J B mk sn L xs X) _
  refine x_il1 (pc := 4) rfl rfl ?_
  refine x_k (pc := 5) rfl rfl rfl ⟨Nat.le_of_ble_eq_true rfl, Nat.le_of_ble_eq_true rfl, Nat.le_of_ble_eq_true rfl⟩ rfl (k_48 (I := I) (A := A) (by decide) ?_)
  show mq 76 8 [some (.ref 1), some (.int (nI 0)), some (.int o), some (.int (nI nn)), none, none, none] [.int (nI 1)] (hS n u I A J B mk sn L xs X) _
  refine x_ifN_eq (pc := 8) (t := 22) rfl rfl (by decide) (fun c => absurd c (by decide)) (fun _ => ?_)
  refine x_il1 (pc := 11) rfl rfl ?_
  refine x_const (pc := 12) (pc' := 13) (.int (nI 1)) rfl rfl rfl rfl ?_
  refine x_cmpN_lt (pc := 13) (t := 22) rfl rfl (by omega) (by omega) (fun c13 => ?_) (fun c13 => ?_)
  · omega
  · refine x_il1 (pc := 16) rfl rfl ?_
    refine x_const (pc := 17) (pc' := 19) (.int (nI 8)) rfl rfl rfl rfl ?_
    refine x_cmpN_le (pc := 19) (t := 32) rfl rfl (by omega) (by omega) (fun c19 => ?_) (fun c19 => ?_)
    · refine x_al1 (pc := 32) rfl rfl ?_
      refine x_al1 (pc := 33) rfl rfl ?_
      refine g_1_2 (pc := 34) rfl rfl ?_
      refine x_il1 (pc := 37) rfl rfl ?_
      refine aal (pc := 38) (q := 0) (a := 13) rfl rfl (by decide) rfl ?_
      refine x_il1 (pc := 39) rfl rfl ?_
      exact x_k (pc := 40) rfl rfl rfl ⟨Nat.le_of_ble_eq_true rfl, Nat.le_of_ble_eq_true rfl, Nat.le_of_ble_eq_true rfl⟩ rfl (k_77x_0 ha hb hx hn hu (mK_x rfl kk))
    · omega
set_option maxRecDepth 100000 in
set_option maxHeartbeats 4000000 in
theorem l_78_1 (h : DK (A 0) D) {cn : Nat} {f : Nat → Nat} {o : Int32} (hcn : cn ≤ 16) (hf : ∀ k, k < cn → f k < 16) (hc : I 43 = nI cn) (hsl : ∀ j, j < cn → A 34 j = nI (f j)) {Q : mO × mHp → Prop} : ∀ (z k r : Nat) , (cn ≤ k + z ∧ k + z ≤ 16 ∧ (0 < z → k + z = cn)) → (Q (.inl (some (.int (nI (gF D f o z k r)))), hS n u I A J B mk sn L xs X)) → mq 78 5 [some (.ref 1), some (.ref 18), some (.int o), some (.int (nI r)), some (.int (nI k))] [] (hS n u I A J B mk sn L xs X) Q := by
  intro z
  induction z with
  | zero =>
    intro k r  hz kk
    refine x_il2 (pc := 5) rfl rfl ?_
    refine x_al1 (pc := 7) rfl rfl ?_
    refine g_18_5 (pc := 8) (v := nI cn) rfl rfl hc ?_
    refine x_cmpN_ge (pc := 11) (t := 41) rfl rfl (by omega) (by omega) (fun c11 => ?_) (fun c11 => ?_)
    · refine x_il1 (pc := 41) rfl rfl ?_
      refine x_ret (pc := 42) rfl rfl ?_
      exact kk
    · omega
  | succ z ih =>
    intro k r  hz kk
    refine x_il2 (pc := 5) rfl rfl ?_
    refine x_al1 (pc := 7) rfl rfl ?_
    refine g_18_5 (pc := 8) (v := nI cn) rfl rfl hc ?_
    refine x_cmpN_ge (pc := 11) (t := 41) rfl rfl (by omega) (by omega) (fun c11 => ?_) (fun c11 => ?_)
    · omega
    · refine x_al1 (pc := 14) rfl rfl ?_
      refine g_1_0 (pc := 15) rfl rfl ?_
      refine x_al1 (pc := 18) rfl rfl ?_
      refine g_18_1 (pc := 19) rfl rfl ?_
      refine x_il2 (pc := 22) rfl rfl ?_
      refine al_19 (pc := 24) (q := k) (v := nI (f k)) rfl rfl (by omega) (hsl k (by omega)) ?_
      refine x_k (pc := 25) rfl rfl rfl ⟨Nat.le_of_ble_eq_true rfl, Nat.le_of_ble_eq_true rfl, Nat.le_of_ble_eq_true rfl⟩ rfl (mq_k (c_22 h (hf k (by omega))) ?_)
      show mq 78 28 [some (.ref 1), some (.ref 18), some (.int o), some (.int (nI r)), some (.int (nI k))] [.int (nI (bB D (f k)))] (hS n u I A J B mk sn L xs X) _
      refine x_il1 (pc := 28) rfl rfl ?_
      refine x_cmp_gt (pc := 29) (t := 35) rfl rfl rfl (fun c29 => ?_) (fun c29 => ?_)
      · refine x_iincN (pc := 35) (c := 1) (ml' := [some (.ref 1), some (.ref 18), some (.int o), some (.int (nI r)), some (.int (nI (k + 1)))]) rfl rfl rfl rfl ?_
        refine x_step (pc := 38) (pc' := 5) rfl rfl rfl rfl ?_
        have ev : gF D f o (z + 1) k r = gF D f o z (k + 1) r := by
          conv => lhs; unfold gF
          rw [if_neg (Int32.not_le.mpr c29)]
        rw [ev] at kk
        exact ih (k + 1) r (by omega) kk
      · refine x_il2 (pc := 32) rfl rfl ?_
        refine x_is1 (pc := 34) (ml' := [some (.ref 1), some (.ref 18), some (.int o), some (.int (nI k)), some (.int (nI k))]) rfl rfl ?_
        refine x_iincN (pc := 35) (c := 1) (ml' := [some (.ref 1), some (.ref 18), some (.int o), some (.int (nI k)), some (.int (nI (k + 1)))]) rfl rfl rfl rfl ?_
        refine x_step (pc := 38) (pc' := 5) rfl rfl rfl rfl ?_
        have ev : gF D f o (z + 1) k r = gF D f o z (k + 1) k := by
          conv => lhs; unfold gF
          rw [if_pos (Int32.not_lt.mp c29)]
        rw [ev] at kk
        exact ih (k + 1) k (by omega) kk
set_option maxRecDepth 100000 in
set_option maxHeartbeats 4000000 in
theorem k_78_1 (h : DK (A 0) D) {cn : Nat} {f : Nat → Nat} {o : Int32} (hcn : cn ≤ 16) (hf : ∀ k, k < cn → f k < 16) (hc : I 43 = nI cn) (hsl : ∀ j, j < cn → A 34 j = nI (f j)) {Q : mO × mHp → Prop} (kk : Q (.inl (some (.int (nI (dF D f o (cn - 1))))), hS n u I A J B mk sn L xs X)) : mq 78 0 [some (.ref 1), some (.ref 18), some (.int o), none, none] [] (hS n u I A J B mk sn L xs X) Q := by
  refine x_const (pc := 0) (pc' := 1) (.int (nI 0)) rfl rfl rfl rfl ?_
  refine x_is1 (pc := 1) (ml' := [some (.ref 1), some (.ref 18), some (.int o), some (.int (nI 0)), none]) rfl rfl ?_
  refine x_const (pc := 2) (pc' := 3) (.int (nI 1)) rfl rfl rfl rfl ?_
  refine x_is2 (pc := 3) (ml' := [some (.ref 1), some (.ref 18), some (.int o), some (.int (nI 0)), some (.int (nI 1))]) rfl rfl ?_
  rw [← gF_eq] at kk
  exact l_78_1 h hcn hf hc hsl (cn - 1) 1 0 (by omega) kk
set_option maxRecDepth 100000 in
set_option maxHeartbeats 4000000 in
theorem k_77_1 {o a b : Int32} (ha : I 44 = a) (hb : I 45 = b) (h1 : ¬ o < a) (h2 : o ≤ b) {Q : mO × mHp → Prop} (kk : Q (.inl none, hS n u I A J B mk sn L xs X)) : mq 77 0 [some (.ref 1), some (.ref 18), some (.int o)] [] (hS n u I A J B mk sn L xs X) Q := by
  refine x_il1 (pc := 0) rfl rfl ?_
  refine x_al1 (pc := 1) rfl rfl ?_
  refine g_18_6 (pc := 2) (v := a) rfl rfl ha ?_
  refine x_cmp_lt (pc := 5) (t := 16) rfl rfl rfl (fun c5 => ?_) (fun c5 => ?_)
  · exact absurd c5 h1
  · refine x_il1 (pc := 8) rfl rfl ?_
    refine x_al1 (pc := 9) rfl rfl ?_
    refine g_18_7 (pc := 10) (v := b) rfl rfl hb ?_
    refine x_cmp_le (pc := 13) (t := 27) rfl rfl rfl (fun c13 => ?_) (fun c13 => ?_)
    · refine x_ret (pc := 27) rfl rfl ?_
      exact kk
    · exact absurd h2 c13
set_option maxRecDepth 100000 in
set_option maxHeartbeats 4000000 in
theorem k_77x_1 {o a b : Int32} (ha : I 44 = a) (hb : I 45 = b) (hx : o < a ∨ ¬ o ≤ b) (hn : 77 ≤ n ∧ n < 10000) (hu : u + 6 < 1000000) {Q : mO × mHp → Prop} (kk : Q (.inr n, hS (n + 1) (u + 6) I A J B mk sn L xs (va_up X n (.inr (12, []))))) : mq 77 0 [some (.ref 1), some (.ref 18), some (.int o)] [] (hS n u I A J B mk sn L xs X) Q := by
  refine x_il1 (pc := 0) rfl rfl ?_
  refine x_al1 (pc := 1) rfl rfl ?_
  refine g_18_6 (pc := 2) (v := a) rfl rfl ha ?_
  refine x_cmp_lt (pc := 5) (t := 16) rfl rfl rfl (fun c5 => ?_) (fun c5 => ?_)
  · refine x_thr (pc := 16) rfl rfl hn hu rfl ⟨Nat.le_of_ble_eq_true rfl, Nat.le_of_ble_eq_true rfl⟩ ?_
    exact kk
  · refine x_il1 (pc := 8) rfl rfl ?_
    refine x_al1 (pc := 9) rfl rfl ?_
    refine g_18_7 (pc := 10) (v := b) rfl rfl hb ?_
    refine x_cmp_le (pc := 13) (t := 27) rfl rfl rfl (fun c13 => ?_) (fun c13 => ?_)
    · exact absurd hx (fun q => q.elim c5 (fun q => q c13))
    · refine x_thr (pc := 16) rfl rfl hn hu rfl ⟨Nat.le_of_ble_eq_true rfl, Nat.le_of_ble_eq_true rfl⟩ ?_
      exact kk
set_option maxRecDepth 100000 in
set_option maxHeartbeats 4000000 in
theorem l_76_1 {cn nn fi : Nat} {f bc : Nat → Nat} {o : Int32} (hcn : cn ≤ 16) (hf : ∀ k, k < cn → f k < 16 ∧ WS D (f k) (bc (f k))) (hnn : nn ≤ 8) {Q : mO × mHp → Prop} : ∀ (z k : Nat) (l : List R5) (x : Int32) (w6 : Option Value) {I : Nat → Int32} {A : Nat → Nat → Int32}, (DK (A 0) D) → (k + z = cn) → (fi < k) → (I 43 = nI cn) → (∀ j, j < cn → A 34 j = nI (f j)) → (l.length ≤ nn) → (FC I A l) → (I 11 = x) → (∀ I' A', Fr [4, 5, 6, 7, 8, 9, 10, 11, 16, 20, 21, 22] I I' → Fr [5, 6, 7, 8, 9, 10, 11, 12, 13, 14] A A' → FC I' A' (fG D f bc o nn z k 0 l x).1 → I' 11 = (fG D f bc o nn z k 0 l x).2 → Q (.inl (some (.int (nI (fG D f bc o nn z k 0 l x).1.length))), hS n u I' A' J B mk sn L xs X)) → mq 76 73 [some (.ref 1), some (.int (nI 1)), some (.int o), some (.int (nI nn)), some (.int (nI fi)), some (.int (nI k)), w6] [] (hS n u I A J B mk sn L xs X) Q := by
  intro z
  induction z with
  | zero =>
    intro k l x w6 I A h hz hfi hc hsl hln hF h11 kk
    refine x_il2 (pc := 73) rfl rfl ?_
    refine x_al1 (pc := 75) rfl rfl ?_
    refine g_1_2 (pc := 76) rfl rfl ?_
    refine x_il1 (pc := 79) rfl rfl ?_
    refine aal (pc := 80) (q := 1) (a := 18) rfl rfl (by decide) rfl ?_
    refine g_18_5 (pc := 81) (v := nI cn) rfl rfl hc ?_
    refine x_cmpN_ge (pc := 84) (t := 145) rfl rfl (by omega) (by omega) (fun c84 => ?_) (fun c84 => ?_)
    · refine x_al1 (pc := 145) rfl rfl ?_
      refine g_1_4 (pc := 146) rfl rfl ?_
      refine g_34_5 (pc := 149) (v := nI l.length) rfl rfl hF.1 ?_
      refine x_ret (pc := 152) rfl rfl ?_
      exact kk I A (Fr_refl _ _) (Fr_refl _ _) hF h11
    · omega
  | succ z ih =>
    intro k l x w6 I A h hz hfi hc hsl hln hF h11 kk
    refine x_il2 (pc := 73) rfl rfl ?_
    refine x_al1 (pc := 75) rfl rfl ?_
    refine g_1_2 (pc := 76) rfl rfl ?_
    refine x_il1 (pc := 79) rfl rfl ?_
    refine aal (pc := 80) (q := 1) (a := 18) rfl rfl (by decide) rfl ?_
    refine g_18_5 (pc := 81) (v := nI cn) rfl rfl hc ?_
    refine x_cmpN_ge (pc := 84) (t := 145) rfl rfl (by omega) (by omega) (fun c84 => ?_) (fun c84 => ?_)
    · omega
    · refine x_al1 (pc := 87) rfl rfl ?_
      refine g_1_4 (pc := 88) rfl rfl ?_
      refine g_34_5 (pc := 91) (v := nI l.length) rfl rfl hF.1 ?_
      refine x_il1 (pc := 94) rfl rfl ?_
      refine x_cmpN_ge (pc := 95) (t := 145) rfl rfl (by omega) (by omega) (fun c95 => ?_) (fun c95 => ?_)
      · have ev : fG D f bc o nn (z + 1) k 0 l x = (l, x) := by
          unfold fG
          rw [if_pos c95]
        rw [ev] at kk
        refine x_al1 (pc := 145) rfl rfl ?_
        refine g_1_4 (pc := 146) rfl rfl ?_
        refine g_34_5 (pc := 149) (v := nI l.length) rfl rfl hF.1 ?_
        refine x_ret (pc := 152) rfl rfl ?_
        exact kk I A (Fr_refl _ _) (Fr_refl _ _) hF h11
      · refine x_al1 (pc := 98) rfl rfl ?_
        refine g_1_2 (pc := 99) rfl rfl ?_
        refine x_il1 (pc := 102) rfl rfl ?_
        refine aal (pc := 103) (q := 1) (a := 18) rfl rfl (by decide) rfl ?_
        refine g_18_1 (pc := 104) rfl rfl ?_
        refine x_il2 (pc := 107) rfl rfl ?_
        refine al_19 (pc := 109) (q := k) (v := nI (f k)) rfl rfl (by omega) (hsl k (by omega)) ?_
        refine x_is2 (pc := 110) (ml' := [some (.ref 1), some (.int (nI 1)), some (.int o), some (.int (nI nn)), some (.int (nI fi)), some (.int (nI k)), some (.int (nI (f k)))]) rfl rfl ?_
        refine x_al1 (pc := 112) rfl rfl ?_
        refine x_il2 (pc := 113) rfl rfl ?_
        refine x_il2 (pc := 115) rfl rfl ?_
        refine x_il2 (pc := 117) rfl rfl ?_
        refine x_cmpN_ne (pc := 119) (t := 132) rfl rfl (by omega) (by omega) (fun c119 => ?_) (fun c119 => ?_)
        · refine x_const (pc := 132) (pc' := 134) (.int (nI 8)) rfl rfl rfl rfl ?_
          refine x_top (y := nI (pb D (f k) 0)) (congrArg nI (pb_0 D (f k)).symm) ?_
          refine x_il1 (pc := 134) rfl rfl ?_
          refine x_il1 (pc := 135) rfl rfl ?_
          refine x_k (pc := 136) rfl rfl rfl ⟨Nat.le_of_ble_eq_true rfl, Nat.le_of_ble_eq_true rfl, Nat.le_of_ble_eq_true rfl⟩ rfl (k_80 (I := I) (A := A) (j := 0) (c := bc (f k)) h (hf k (by omega)).1 (hf k (by omega)).2 (Nat.zero_le _) hnn hln hF h11 (fun I9 A9 f9 g9 hF9 e9 => ?_))
          show mq 76 139 [some (.ref 1), some (.int (nI 1)), some (.int o), some (.int (nI nn)), some (.int (nI fi)), some (.int (nI k)), some (.int (nI (f k)))] [] (hS n u I9 A9 J B mk sn L xs X) _
          refine x_iincN (pc := 139) (c := 1) (ml' := [some (.ref 1), some (.int (nI 1)), some (.int o), some (.int (nI nn)), some (.int (nI fi)), some (.int (nI (k + 1))), some (.int (nI (f k)))]) rfl rfl rfl rfl ?_
          refine x_step (pc := 142) (pc' := 73) rfl rfl rfl rfl ?_
          have ev : fG D f bc o nn (z + 1) k 0 l x = fG D f bc o nn z (k + 1) 0 (fB D (f k) o nn (bc (f k) - 0) 0 l x).1 (fB D (f k) o nn (bc (f k) - 0) 0 l x).2 := by
            conv => lhs; unfold fG
            rw [if_neg c95]
          rw [ev] at kk
          exact ih (k + 1) _ _ _ (I := I9) (A := A9) (by rw [g9 0 (by decide)]; exact h) (by omega) (by omega) ((f9 43 (by decide)).trans hc) (fun j hj => by rw [g9 34 (by decide)]; exact hsl j hj) (fB_len _ _ _ _ _ _ _ _ hln) hF9 e9 (fun I2 A2 f2 g2 hF2 e2 => kk I2 A2 (Fr_cons (Fr_cons (Fr_refl _ _) f9 (by decide)) f2 (by decide)) (Fr_cons (Fr_cons (Fr_refl _ _) g9 (by decide)) g2 (by decide)) hF2 e2)
        · omega
set_option maxRecDepth 100000 in
set_option maxHeartbeats 4000000 in
theorem k_76_1 (h : DK (A 0) D) {cn nn : Nat} {f bc : Nat → Nat} {o a b : Int32} (hcn : cn ≤ 16) (hf : ∀ k, k < cn → f k < 16 ∧ WS D (f k) (bc (f k))) (hn1 : 1 ≤ nn) (hnn : nn ≤ 8) (h0 : I 0 = nI 1) (hc : I 43 = nI cn) (ha : I 44 = a) (hb : I 45 = b) (h1 : ¬ o < a) (h2 : o ≤ b) (hsl : ∀ j, j < cn → A 34 j = nI (f j)) {Q : mO × mHp → Prop} (kk : ∀ I' A', Fr [4, 5, 6, 7, 8, 9, 10, 11, 16, 20, 21, 22] I I' → Fr [5, 6, 7, 8, 9, 10, 11, 12, 13, 14] A A' → FC I' A' (fG D f bc o nn (cn - dF D f o (cn - 1)) (dF D f o (cn - 1)) (eB D (f (dF D f o (cn - 1))) o (bc (f (dF D f o (cn - 1)))) 0 8 0) [] (nI 0)).1 → I' 11 = (fG D f bc o nn (cn - dF D f o (cn - 1)) (dF D f o (cn - 1)) (eB D (f (dF D f o (cn - 1))) o (bc (f (dF D f o (cn - 1)))) 0 8 0) [] (nI 0)).2 → Q (.inl (some (.int (nI (fG D f bc o nn (cn - dF D f o (cn - 1)) (dF D f o (cn - 1)) (eB D (f (dF D f o (cn - 1))) o (bc (f (dF D f o (cn - 1)))) 0 8 0) [] (nI 0)).1.length))), hS n u I' A' J B mk sn L xs X)) : mq 76 0 [some (.ref 1), some (.int (nI 1)), some (.int o), some (.int (nI nn)), none, none, none] [] (hS n u I A J B mk sn L xs X) Q := by
  refine x_al1 (pc := 0) rfl rfl ?_
  refine x_k (pc := 1) rfl rfl rfl ⟨Nat.le_of_ble_eq_true rfl, Nat.le_of_ble_eq_true rfl, Nat.le_of_ble_eq_true rfl⟩ rfl (k_60 (I := I) (A := A) h0 ?_)
  show mq 76 4 [some (.ref 1), some (.int (nI 1)), some (.int o), some (.int (nI nn)), none, none, none] [] (hS n u I A J B mk sn L xs X) _
  refine x_il1 (pc := 4) rfl rfl ?_
  refine x_k (pc := 5) rfl rfl rfl ⟨Nat.le_of_ble_eq_true rfl, Nat.le_of_ble_eq_true rfl, Nat.le_of_ble_eq_true rfl⟩ rfl (k_48 (I := I) (A := A) (by decide) ?_)
  show mq 76 8 [some (.ref 1), some (.int (nI 1)), some (.int o), some (.int (nI nn)), none, none, none] [.int (nI 1)] (hS n u I A J B mk sn L xs X) _
  refine x_ifN_eq (pc := 8) (t := 22) rfl rfl (by decide) (fun c => absurd c (by decide)) (fun _ => ?_)
  refine x_il1 (pc := 11) rfl rfl ?_
  refine x_const (pc := 12) (pc' := 13) (.int (nI 1)) rfl rfl rfl rfl ?_
  refine x_cmpN_lt (pc := 13) (t := 22) rfl rfl (by omega) (by omega) (fun c13 => ?_) (fun c13 => ?_)
  · omega
  · refine x_il1 (pc := 16) rfl rfl ?_
    refine x_const (pc := 17) (pc' := 19) (.int (nI 8)) rfl rfl rfl rfl ?_
    refine x_cmpN_le (pc := 19) (t := 32) rfl rfl (by omega) (by omega) (fun c19 => ?_) (fun c19 => ?_)
    · refine x_al1 (pc := 32) rfl rfl ?_
      refine x_al1 (pc := 33) rfl rfl ?_
      refine g_1_2 (pc := 34) rfl rfl ?_
      refine x_il1 (pc := 37) rfl rfl ?_
      refine aal (pc := 38) (q := 1) (a := 18) rfl rfl (by decide) rfl ?_
      refine x_il1 (pc := 39) rfl rfl ?_
      refine x_k (pc := 40) rfl rfl rfl ⟨Nat.le_of_ble_eq_true rfl, Nat.le_of_ble_eq_true rfl, Nat.le_of_ble_eq_true rfl⟩ rfl (k_77_1 (I := I) (A := A) ha hb h1 h2 ?_)
      show mq 76 43 [some (.ref 1), some (.int (nI 1)), some (.int o), some (.int (nI nn)), none, none, none] [] (hS n u I A J B mk sn L xs X) _
      refine x_al1 (pc := 43) rfl rfl ?_
      refine g_1_4 (pc := 44) rfl rfl ?_
      refine x_const (pc := 47) (pc' := 48) (.int (nI 0)) rfl rfl rfl rfl ?_
      refine p_34_5 (pc := 48) rfl rfl ?_
      refine x_al1 (pc := 51) rfl rfl ?_
      refine x_const (pc := 52) (pc' := 53) (.int (nI 0)) rfl rfl rfl rfl ?_
      refine p_1_11 (pc := 53) rfl rfl ?_
      refine x_al1 (pc := 56) rfl rfl ?_
      refine x_al1 (pc := 57) rfl rfl ?_
      refine g_1_2 (pc := 58) rfl rfl ?_
      refine x_il1 (pc := 61) rfl rfl ?_
      refine aal (pc := 62) (q := 1) (a := 18) rfl rfl (by decide) rfl ?_
      refine x_il1 (pc := 63) rfl rfl ?_
      refine x_k (pc := 64) rfl rfl rfl ⟨Nat.le_of_ble_eq_true rfl, Nat.le_of_ble_eq_true rfl, Nat.le_of_ble_eq_true rfl⟩ rfl (k_78_1 (I := va_up (va_up I 16 (nI 0)) 11 (nI 0)) (A := A) (o := o) h hcn (fun k hk => (hf k hk).1) hc hsl ?_)
      show mq 76 67 [some (.ref 1), some (.int (nI 1)), some (.int o), some (.int (nI nn)), none, none, none] [.int (nI (dF D f o (cn - 1)))] (hS n u (va_up (va_up I 16 (nI 0)) 11 (nI 0)) A J B mk sn L xs X) _
      refine x_is2 (pc := 67) (ml' := [some (.ref 1), some (.int (nI 1)), some (.int o), some (.int (nI nn)), some (.int (nI (dF D f o (cn - 1)))), none, none]) rfl rfl ?_
      refine x_il2 (pc := 69) rfl rfl ?_
      refine x_is2 (pc := 71) (ml' := [some (.ref 1), some (.int (nI 1)), some (.int o), some (.int (nI nn)), some (.int (nI (dF D f o (cn - 1)))), some (.int (nI (dF D f o (cn - 1)))), none]) rfl rfl ?_
      obtain ⟨k, hkd⟩ : ∃ k, k = dF D f o (cn - 1) := ⟨_, rfl⟩
      have hkl := dF_le D f o (cn - 1)
      rw [← hkd] at hkl ⊢
      rw [← hkd] at kk
      rcases Nat.eq_zero_or_pos cn with hk0 | hk0
      · have ek : cn - k = 0 := by omega
        rw [ek] at kk
        refine x_il2 (pc := 73) rfl rfl ?_
        refine x_al1 (pc := 75) rfl rfl ?_
        refine g_1_2 (pc := 76) rfl rfl ?_
        refine x_il1 (pc := 79) rfl rfl ?_
        refine aal (pc := 80) (q := 1) (a := 18) rfl rfl (by decide) rfl ?_
        refine g_18_5 (pc := 81) (v := nI 0) rfl rfl (hc.trans (congrArg nI hk0)) ?_
        refine x_cmpN_ge (pc := 84) (t := 145) rfl rfl (by omega) (by decide) (fun c84 => ?_) (fun c84 => ?_)
        · refine x_al1 (pc := 145) rfl rfl ?_
          refine g_1_4 (pc := 146) rfl rfl ?_
          refine g_34_5 (pc := 149) (v := nI 0) rfl rfl rfl ?_
          refine x_ret (pc := 152) rfl rfl ?_
          exact kk _ _ (Fr_u (Fr_u (Fr_refl _ _) (by decide)) (by decide)) (Fr_refl _ _) ⟨rfl, fun i hi => absurd hi (Nat.not_lt_zero i)⟩ rfl
        · omega
      · have hk : k < cn := by omega
        have hz : cn - k = (cn - k - 1) + 1 := by omega
        have ev : fG D f bc o nn (cn - k) k (eB D (f k) o (bc (f k)) 0 8 0) [] (nI 0) = fG D f bc o nn (cn - k - 1) (k + 1) 0 (fB D (f k) o nn (bc (f k) - eB D (f k) o (bc (f k)) 0 8 0) (eB D (f k) o (bc (f k)) 0 8 0) [] (nI 0)).1 (fB D (f k) o nn (bc (f k) - eB D (f k) o (bc (f k)) 0 8 0) (eB D (f k) o (bc (f k)) 0 8 0) [] (nI 0)).2 := by
          rw [show fG D f bc o nn (cn - k) k (eB D (f k) o (bc (f k)) 0 8 0) [] (nI 0) = fG D f bc o nn ((cn - k - 1) + 1) k (eB D (f k) o (bc (f k)) 0 8 0) [] (nI 0) from congrArg (fun z => fG D f bc o nn z k (eB D (f k) o (bc (f k)) 0 8 0) [] (nI 0)) hz]
          conv => lhs; unfold fG
          rw [if_neg (by simp; omega)]
        rw [ev] at kk
        refine x_il2 (pc := 73) rfl rfl ?_
        refine x_al1 (pc := 75) rfl rfl ?_
        refine g_1_2 (pc := 76) rfl rfl ?_
        refine x_il1 (pc := 79) rfl rfl ?_
        refine aal (pc := 80) (q := 1) (a := 18) rfl rfl (by decide) rfl ?_
        refine g_18_5 (pc := 81) (v := nI cn) rfl rfl hc ?_
        refine x_cmpN_ge (pc := 84) (t := 145) rfl rfl (by omega) (by omega) (fun c84 => ?_) (fun c84 => ?_)
        · omega
        · refine x_al1 (pc := 87) rfl rfl ?_
          refine g_1_4 (pc := 88) rfl rfl ?_
          refine g_34_5 (pc := 91) (v := nI 0) rfl rfl rfl ?_
          refine x_il1 (pc := 94) rfl rfl ?_
          refine x_cmpN_ge (pc := 95) (t := 145) rfl rfl (by decide) (by omega) (fun c95 => ?_) (fun c95 => ?_)
          · omega
          · refine x_al1 (pc := 98) rfl rfl ?_
            refine g_1_2 (pc := 99) rfl rfl ?_
            refine x_il1 (pc := 102) rfl rfl ?_
            refine aal (pc := 103) (q := 1) (a := 18) rfl rfl (by decide) rfl ?_
            refine g_18_1 (pc := 104) rfl rfl ?_
            refine x_il2 (pc := 107) rfl rfl ?_
            refine al_19 (pc := 109) (q := k) (v := nI (f k)) rfl rfl (by omega) (hsl k hk) ?_
            refine x_is2 (pc := 110) (ml' := [some (.ref 1), some (.int (nI 1)), some (.int o), some (.int (nI nn)), some (.int (nI k)), some (.int (nI k)), some (.int (nI (f k)))]) rfl rfl ?_
            refine x_al1 (pc := 112) rfl rfl ?_
            refine x_il2 (pc := 113) rfl rfl ?_
            refine x_il2 (pc := 115) rfl rfl ?_
            refine x_il2 (pc := 117) rfl rfl ?_
            refine x_cmpN_ne (pc := 119) (t := 132) rfl rfl (by omega) (by omega) (fun c119 => ?_) (fun c119 => ?_)
            · exact absurd rfl c119
            · refine x_al1 (pc := 122) rfl rfl ?_
              refine x_il2 (pc := 123) rfl rfl ?_
              refine x_il1 (pc := 125) rfl rfl ?_
              refine x_k (pc := 126) rfl rfl rfl ⟨Nat.le_of_ble_eq_true rfl, Nat.le_of_ble_eq_true rfl, Nat.le_of_ble_eq_true rfl⟩ rfl (k_79 (I := va_up (va_up I 16 (nI 0)) 11 (nI 0)) (A := A) (c := bc (f k)) (o := o) h (hf k hk).1 (hf k hk).2 (fun I8 A8 f8 g8 => ?_))
              show mq 76 129 [some (.ref 1), some (.int (nI 1)), some (.int o), some (.int (nI nn)), some (.int (nI k)), some (.int (nI k)), some (.int (nI (f k)))] [.int (nI (pb D (f k) (eB D (f k) o (bc (f k)) 0 8 0))), .int (nI (f k)), .ref 1] (hS n u I8 A8 J B mk sn L xs X) _
              refine x_step (pc := 129) (pc' := 134) rfl rfl rfl rfl ?_
              refine x_il1 (pc := 134) rfl rfl ?_
              refine x_il1 (pc := 135) rfl rfl ?_
              refine x_k (pc := 136) rfl rfl rfl ⟨Nat.le_of_ble_eq_true rfl, Nat.le_of_ble_eq_true rfl, Nat.le_of_ble_eq_true rfl⟩ rfl (k_80 (I := I8) (A := A8) (j := eB D (f k) o (bc (f k)) 0 8 0) (c := bc (f k)) (l := []) (x := nI 0) (by rw [g8 0 (by decide)]; exact h) (hf k hk).1 (hf k hk).2 (by have := eB_le D (f k) o (bc (f k)) 0 8 0 (Nat.zero_le _); omega) hnn (Nat.zero_le _) ⟨f8 16 (by decide), fun i hi => absurd hi (Nat.not_lt_zero i)⟩ (f8 11 (by decide)) (fun I9 A9 f9 g9 hF9 e9 => ?_))
              show mq 76 139 [some (.ref 1), some (.int (nI 1)), some (.int o), some (.int (nI nn)), some (.int (nI k)), some (.int (nI k)), some (.int (nI (f k)))] [] (hS n u I9 A9 J B mk sn L xs X) _
              refine x_iincN (pc := 139) (c := 1) (ml' := [some (.ref 1), some (.int (nI 1)), some (.int o), some (.int (nI nn)), some (.int (nI k)), some (.int (nI (k + 1))), some (.int (nI (f k)))]) rfl rfl rfl rfl ?_
              refine x_step (pc := 142) (pc' := 73) rfl rfl rfl rfl ?_
              exact l_76_1 hcn hf hnn (cn - k - 1) (k + 1) _ _ _ (I := I9) (A := A9) (by rw [g9 0 (by decide), g8 0 (by decide)]; exact h) (by omega) (by omega) ((f9 43 (by decide)).trans ((f8 43 (by decide)).trans hc)) (fun j hj => by rw [g9 34 (by decide), g8 34 (by decide)]; exact hsl j hj) (fB_len _ _ _ _ _ _ _ _ (Nat.zero_le _)) hF9 e9 (fun I2 A2 f2 g2 hF2 e2 => kk I2 A2 (Fr_cons (Fr_cons (Fr_cons (Fr_u (Fr_u (Fr_refl _ _) (by decide)) (by decide)) f8 (by decide)) f9 (by decide)) f2 (by decide)) (Fr_cons (Fr_cons (Fr_cons (Fr_refl _ _) g8 (by decide)) g9 (by decide)) g2 (by decide)) hF2 e2)
    · omega
set_option maxRecDepth 100000 in
set_option maxHeartbeats 4000000 in
theorem k_76o_1 {nn : Nat} {o a b : Int32} (hn1 : 1 ≤ nn) (hnn : nn ≤ 8) (h0 : I 0 = nI 1) (ha : I 44 = a) (hb : I 45 = b) (hx : o < a ∨ ¬ o ≤ b) (hn : 77 ≤ n ∧ n < 10000) (hu : u + 6 < 1000000) {Q : mO × mHp → Prop} (kk : Q (.inr n, hS (n + 1) (u + 6) I A J B mk sn L xs (va_up X n (.inr (12, []))))) : mq 76 0 [some (.ref 1), some (.int (nI 1)), some (.int o), some (.int (nI nn)), none, none, none] [] (hS n u I A J B mk sn L xs X) Q := by
  refine x_al1 (pc := 0) rfl rfl ?_
  refine x_k (pc := 1) rfl rfl rfl ⟨Nat.le_of_ble_eq_true rfl, Nat.le_of_ble_eq_true rfl, Nat.le_of_ble_eq_true rfl⟩ rfl (k_60 (I := I) (A := A) h0 ?_)
  show mq 76 4 [some (.ref 1), some (.int (nI 1)), some (.int o), some (.int (nI nn)), none, none, none] [] (hS n u I A J B mk sn L xs X) _
  refine x_il1 (pc := 4) rfl rfl ?_
  refine x_k (pc := 5) rfl rfl rfl ⟨Nat.le_of_ble_eq_true rfl, Nat.le_of_ble_eq_true rfl, Nat.le_of_ble_eq_true rfl⟩ rfl (k_48 (I := I) (A := A) (by decide) ?_)
  show mq 76 8 [some (.ref 1), some (.int (nI 1)), some (.int o), some (.int (nI nn)), none, none, none] [.int (nI 1)] (hS n u I A J B mk sn L xs X) _
  refine x_ifN_eq (pc := 8) (t := 22) rfl rfl (by decide) (fun c => absurd c (by decide)) (fun _ => ?_)
  refine x_il1 (pc := 11) rfl rfl ?_
  refine x_const (pc := 12) (pc' := 13) (.int (nI 1)) rfl rfl rfl rfl ?_
  refine x_cmpN_lt (pc := 13) (t := 22) rfl rfl (by omega) (by omega) (fun c13 => ?_) (fun c13 => ?_)
  · omega
  · refine x_il1 (pc := 16) rfl rfl ?_
    refine x_const (pc := 17) (pc' := 19) (.int (nI 8)) rfl rfl rfl rfl ?_
    refine x_cmpN_le (pc := 19) (t := 32) rfl rfl (by omega) (by omega) (fun c19 => ?_) (fun c19 => ?_)
    · refine x_al1 (pc := 32) rfl rfl ?_
      refine x_al1 (pc := 33) rfl rfl ?_
      refine g_1_2 (pc := 34) rfl rfl ?_
      refine x_il1 (pc := 37) rfl rfl ?_
      refine aal (pc := 38) (q := 1) (a := 18) rfl rfl (by decide) rfl ?_
      refine x_il1 (pc := 39) rfl rfl ?_
      exact x_k (pc := 40) rfl rfl rfl ⟨Nat.le_of_ble_eq_true rfl, Nat.le_of_ble_eq_true rfl, Nat.le_of_ble_eq_true rfl⟩ rfl (k_77x_1 ha hb hx hn hu (mK_x rfl kk))
    · omega
set_option maxRecDepth 100000 in
set_option maxHeartbeats 4000000 in
theorem l_78_2 (h : DK (A 0) D) {cn : Nat} {f : Nat → Nat} {o : Int32} (hcn : cn ≤ 16) (hf : ∀ k, k < cn → f k < 16) (hc : I 46 = nI cn) (hsl : ∀ j, j < cn → A 38 j = nI (f j)) {Q : mO × mHp → Prop} : ∀ (z k r : Nat) , (cn ≤ k + z ∧ k + z ≤ 16 ∧ (0 < z → k + z = cn)) → (Q (.inl (some (.int (nI (gF D f o z k r)))), hS n u I A J B mk sn L xs X)) → mq 78 5 [some (.ref 1), some (.ref 23), some (.int o), some (.int (nI r)), some (.int (nI k))] [] (hS n u I A J B mk sn L xs X) Q := by
  intro z
  induction z with
  | zero =>
    intro k r  hz kk
    refine x_il2 (pc := 5) rfl rfl ?_
    refine x_al1 (pc := 7) rfl rfl ?_
    refine g_23_5 (pc := 8) (v := nI cn) rfl rfl hc ?_
    refine x_cmpN_ge (pc := 11) (t := 41) rfl rfl (by omega) (by omega) (fun c11 => ?_) (fun c11 => ?_)
    · refine x_il1 (pc := 41) rfl rfl ?_
      refine x_ret (pc := 42) rfl rfl ?_
      exact kk
    · omega
  | succ z ih =>
    intro k r  hz kk
    refine x_il2 (pc := 5) rfl rfl ?_
    refine x_al1 (pc := 7) rfl rfl ?_
    refine g_23_5 (pc := 8) (v := nI cn) rfl rfl hc ?_
    refine x_cmpN_ge (pc := 11) (t := 41) rfl rfl (by omega) (by omega) (fun c11 => ?_) (fun c11 => ?_)
    · omega
    · refine x_al1 (pc := 14) rfl rfl ?_
      refine g_1_0 (pc := 15) rfl rfl ?_
      refine x_al1 (pc := 18) rfl rfl ?_
      refine g_23_1 (pc := 19) rfl rfl ?_
      refine x_il2 (pc := 22) rfl rfl ?_
      refine al_24 (pc := 24) (q := k) (v := nI (f k)) rfl rfl (by omega) (hsl k (by omega)) ?_
      refine x_k (pc := 25) rfl rfl rfl ⟨Nat.le_of_ble_eq_true rfl, Nat.le_of_ble_eq_true rfl, Nat.le_of_ble_eq_true rfl⟩ rfl (mq_k (c_22 h (hf k (by omega))) ?_)
      show mq 78 28 [some (.ref 1), some (.ref 23), some (.int o), some (.int (nI r)), some (.int (nI k))] [.int (nI (bB D (f k)))] (hS n u I A J B mk sn L xs X) _
      refine x_il1 (pc := 28) rfl rfl ?_
      refine x_cmp_gt (pc := 29) (t := 35) rfl rfl rfl (fun c29 => ?_) (fun c29 => ?_)
      · refine x_iincN (pc := 35) (c := 1) (ml' := [some (.ref 1), some (.ref 23), some (.int o), some (.int (nI r)), some (.int (nI (k + 1)))]) rfl rfl rfl rfl ?_
        refine x_step (pc := 38) (pc' := 5) rfl rfl rfl rfl ?_
        have ev : gF D f o (z + 1) k r = gF D f o z (k + 1) r := by
          conv => lhs; unfold gF
          rw [if_neg (Int32.not_le.mpr c29)]
        rw [ev] at kk
        exact ih (k + 1) r (by omega) kk
      · refine x_il2 (pc := 32) rfl rfl ?_
        refine x_is1 (pc := 34) (ml' := [some (.ref 1), some (.ref 23), some (.int o), some (.int (nI k)), some (.int (nI k))]) rfl rfl ?_
        refine x_iincN (pc := 35) (c := 1) (ml' := [some (.ref 1), some (.ref 23), some (.int o), some (.int (nI k)), some (.int (nI (k + 1)))]) rfl rfl rfl rfl ?_
        refine x_step (pc := 38) (pc' := 5) rfl rfl rfl rfl ?_
        have ev : gF D f o (z + 1) k r = gF D f o z (k + 1) k := by
          conv => lhs; unfold gF
          rw [if_pos (Int32.not_lt.mp c29)]
        rw [ev] at kk
        exact ih (k + 1) k (by omega) kk
set_option maxRecDepth 100000 in
set_option maxHeartbeats 4000000 in
theorem k_78_2 (h : DK (A 0) D) {cn : Nat} {f : Nat → Nat} {o : Int32} (hcn : cn ≤ 16) (hf : ∀ k, k < cn → f k < 16) (hc : I 46 = nI cn) (hsl : ∀ j, j < cn → A 38 j = nI (f j)) {Q : mO × mHp → Prop} (kk : Q (.inl (some (.int (nI (dF D f o (cn - 1))))), hS n u I A J B mk sn L xs X)) : mq 78 0 [some (.ref 1), some (.ref 23), some (.int o), none, none] [] (hS n u I A J B mk sn L xs X) Q := by
  refine x_const (pc := 0) (pc' := 1) (.int (nI 0)) rfl rfl rfl rfl ?_
  refine x_is1 (pc := 1) (ml' := [some (.ref 1), some (.ref 23), some (.int o), some (.int (nI 0)), none]) rfl rfl ?_
  refine x_const (pc := 2) (pc' := 3) (.int (nI 1)) rfl rfl rfl rfl ?_
  refine x_is2 (pc := 3) (ml' := [some (.ref 1), some (.ref 23), some (.int o), some (.int (nI 0)), some (.int (nI 1))]) rfl rfl ?_
  rw [← gF_eq] at kk
  exact l_78_2 h hcn hf hc hsl (cn - 1) 1 0 (by omega) kk
set_option maxRecDepth 100000 in
set_option maxHeartbeats 4000000 in
theorem k_77_2 {o a b : Int32} (ha : I 47 = a) (hb : I 48 = b) (h1 : ¬ o < a) (h2 : o ≤ b) {Q : mO × mHp → Prop} (kk : Q (.inl none, hS n u I A J B mk sn L xs X)) : mq 77 0 [some (.ref 1), some (.ref 23), some (.int o)] [] (hS n u I A J B mk sn L xs X) Q := by
  refine x_il1 (pc := 0) rfl rfl ?_
  refine x_al1 (pc := 1) rfl rfl ?_
  refine g_23_6 (pc := 2) (v := a) rfl rfl ha ?_
  refine x_cmp_lt (pc := 5) (t := 16) rfl rfl rfl (fun c5 => ?_) (fun c5 => ?_)
  · exact absurd c5 h1
  · refine x_il1 (pc := 8) rfl rfl ?_
    refine x_al1 (pc := 9) rfl rfl ?_
    refine g_23_7 (pc := 10) (v := b) rfl rfl hb ?_
    refine x_cmp_le (pc := 13) (t := 27) rfl rfl rfl (fun c13 => ?_) (fun c13 => ?_)
    · refine x_ret (pc := 27) rfl rfl ?_
      exact kk
    · exact absurd h2 c13
set_option maxRecDepth 100000 in
set_option maxHeartbeats 4000000 in
theorem k_77x_2 {o a b : Int32} (ha : I 47 = a) (hb : I 48 = b) (hx : o < a ∨ ¬ o ≤ b) (hn : 77 ≤ n ∧ n < 10000) (hu : u + 6 < 1000000) {Q : mO × mHp → Prop} (kk : Q (.inr n, hS (n + 1) (u + 6) I A J B mk sn L xs (va_up X n (.inr (12, []))))) : mq 77 0 [some (.ref 1), some (.ref 23), some (.int o)] [] (hS n u I A J B mk sn L xs X) Q := by
  refine x_il1 (pc := 0) rfl rfl ?_
  refine x_al1 (pc := 1) rfl rfl ?_
  refine g_23_6 (pc := 2) (v := a) rfl rfl ha ?_
  refine x_cmp_lt (pc := 5) (t := 16) rfl rfl rfl (fun c5 => ?_) (fun c5 => ?_)
  · refine x_thr (pc := 16) rfl rfl hn hu rfl ⟨Nat.le_of_ble_eq_true rfl, Nat.le_of_ble_eq_true rfl⟩ ?_
    exact kk
  · refine x_il1 (pc := 8) rfl rfl ?_
    refine x_al1 (pc := 9) rfl rfl ?_
    refine g_23_7 (pc := 10) (v := b) rfl rfl hb ?_
    refine x_cmp_le (pc := 13) (t := 27) rfl rfl rfl (fun c13 => ?_) (fun c13 => ?_)
    · exact absurd hx (fun q => q.elim c5 (fun q => q c13))
    · refine x_thr (pc := 16) rfl rfl hn hu rfl ⟨Nat.le_of_ble_eq_true rfl, Nat.le_of_ble_eq_true rfl⟩ ?_
      exact kk
set_option maxRecDepth 100000 in
set_option maxHeartbeats 4000000 in
theorem l_76_2 {cn nn fi : Nat} {f bc : Nat → Nat} {o : Int32} (hcn : cn ≤ 16) (hf : ∀ k, k < cn → f k < 16 ∧ WS D (f k) (bc (f k))) (hnn : nn ≤ 8) {Q : mO × mHp → Prop} : ∀ (z k : Nat) (l : List R5) (x : Int32) (w6 : Option Value) {I : Nat → Int32} {A : Nat → Nat → Int32}, (DK (A 0) D) → (k + z = cn) → (fi < k) → (I 46 = nI cn) → (∀ j, j < cn → A 38 j = nI (f j)) → (l.length ≤ nn) → (FC I A l) → (I 11 = x) → (∀ I' A', Fr [4, 5, 6, 7, 8, 9, 10, 11, 16, 20, 21, 22] I I' → Fr [5, 6, 7, 8, 9, 10, 11, 12, 13, 14] A A' → FC I' A' (fG D f bc o nn z k 0 l x).1 → I' 11 = (fG D f bc o nn z k 0 l x).2 → Q (.inl (some (.int (nI (fG D f bc o nn z k 0 l x).1.length))), hS n u I' A' J B mk sn L xs X)) → mq 76 73 [some (.ref 1), some (.int (nI 2)), some (.int o), some (.int (nI nn)), some (.int (nI fi)), some (.int (nI k)), w6] [] (hS n u I A J B mk sn L xs X) Q := by
  intro z
  induction z with
  | zero =>
    intro k l x w6 I A h hz hfi hc hsl hln hF h11 kk
    refine x_il2 (pc := 73) rfl rfl ?_
    refine x_al1 (pc := 75) rfl rfl ?_
    refine g_1_2 (pc := 76) rfl rfl ?_
    refine x_il1 (pc := 79) rfl rfl ?_
    refine aal (pc := 80) (q := 2) (a := 23) rfl rfl (by decide) rfl ?_
    refine g_23_5 (pc := 81) (v := nI cn) rfl rfl hc ?_
    refine x_cmpN_ge (pc := 84) (t := 145) rfl rfl (by omega) (by omega) (fun c84 => ?_) (fun c84 => ?_)
    · refine x_al1 (pc := 145) rfl rfl ?_
      refine g_1_4 (pc := 146) rfl rfl ?_
      refine g_34_5 (pc := 149) (v := nI l.length) rfl rfl hF.1 ?_
      refine x_ret (pc := 152) rfl rfl ?_
      exact kk I A (Fr_refl _ _) (Fr_refl _ _) hF h11
    · omega
  | succ z ih =>
    intro k l x w6 I A h hz hfi hc hsl hln hF h11 kk
    refine x_il2 (pc := 73) rfl rfl ?_
    refine x_al1 (pc := 75) rfl rfl ?_
    refine g_1_2 (pc := 76) rfl rfl ?_
    refine x_il1 (pc := 79) rfl rfl ?_
    refine aal (pc := 80) (q := 2) (a := 23) rfl rfl (by decide) rfl ?_
    refine g_23_5 (pc := 81) (v := nI cn) rfl rfl hc ?_
    refine x_cmpN_ge (pc := 84) (t := 145) rfl rfl (by omega) (by omega) (fun c84 => ?_) (fun c84 => ?_)
    · omega
    · refine x_al1 (pc := 87) rfl rfl ?_
      refine g_1_4 (pc := 88) rfl rfl ?_
      refine g_34_5 (pc := 91) (v := nI l.length) rfl rfl hF.1 ?_
      refine x_il1 (pc := 94) rfl rfl ?_
      refine x_cmpN_ge (pc := 95) (t := 145) rfl rfl (by omega) (by omega) (fun c95 => ?_) (fun c95 => ?_)
      · have ev : fG D f bc o nn (z + 1) k 0 l x = (l, x) := by
          unfold fG
          rw [if_pos c95]
        rw [ev] at kk
        refine x_al1 (pc := 145) rfl rfl ?_
        refine g_1_4 (pc := 146) rfl rfl ?_
        refine g_34_5 (pc := 149) (v := nI l.length) rfl rfl hF.1 ?_
        refine x_ret (pc := 152) rfl rfl ?_
        exact kk I A (Fr_refl _ _) (Fr_refl _ _) hF h11
      · refine x_al1 (pc := 98) rfl rfl ?_
        refine g_1_2 (pc := 99) rfl rfl ?_
        refine x_il1 (pc := 102) rfl rfl ?_
        refine aal (pc := 103) (q := 2) (a := 23) rfl rfl (by decide) rfl ?_
        refine g_23_1 (pc := 104) rfl rfl ?_
        refine x_il2 (pc := 107) rfl rfl ?_
        refine al_24 (pc := 109) (q := k) (v := nI (f k)) rfl rfl (by omega) (hsl k (by omega)) ?_
        refine x_is2 (pc := 110) (ml' := [some (.ref 1), some (.int (nI 2)), some (.int o), some (.int (nI nn)), some (.int (nI fi)), some (.int (nI k)), some (.int (nI (f k)))]) rfl rfl ?_
        refine x_al1 (pc := 112) rfl rfl ?_
        refine x_il2 (pc := 113) rfl rfl ?_
        refine x_il2 (pc := 115) rfl rfl ?_
        refine x_il2 (pc := 117) rfl rfl ?_
        refine x_cmpN_ne (pc := 119) (t := 132) rfl rfl (by omega) (by omega) (fun c119 => ?_) (fun c119 => ?_)
        · refine x_const (pc := 132) (pc' := 134) (.int (nI 8)) rfl rfl rfl rfl ?_
          refine x_top (y := nI (pb D (f k) 0)) (congrArg nI (pb_0 D (f k)).symm) ?_
          refine x_il1 (pc := 134) rfl rfl ?_
          refine x_il1 (pc := 135) rfl rfl ?_
          refine x_k (pc := 136) rfl rfl rfl ⟨Nat.le_of_ble_eq_true rfl, Nat.le_of_ble_eq_true rfl, Nat.le_of_ble_eq_true rfl⟩ rfl (k_80 (I := I) (A := A) (j := 0) (c := bc (f k)) h (hf k (by omega)).1 (hf k (by omega)).2 (Nat.zero_le _) hnn hln hF h11 (fun I9 A9 f9 g9 hF9 e9 => ?_))
          show mq 76 139 [some (.ref 1), some (.int (nI 2)), some (.int o), some (.int (nI nn)), some (.int (nI fi)), some (.int (nI k)), some (.int (nI (f k)))] [] (hS n u I9 A9 J B mk sn L xs X) _
          refine x_iincN (pc := 139) (c := 1) (ml' := [some (.ref 1), some (.int (nI 2)), some (.int o), some (.int (nI nn)), some (.int (nI fi)), some (.int (nI (k + 1))), some (.int (nI (f k)))]) rfl rfl rfl rfl ?_
          refine x_step (pc := 142) (pc' := 73) rfl rfl rfl rfl ?_
          have ev : fG D f bc o nn (z + 1) k 0 l x = fG D f bc o nn z (k + 1) 0 (fB D (f k) o nn (bc (f k) - 0) 0 l x).1 (fB D (f k) o nn (bc (f k) - 0) 0 l x).2 := by
            conv => lhs; unfold fG
            rw [if_neg c95]
          rw [ev] at kk
          exact ih (k + 1) _ _ _ (I := I9) (A := A9) (by rw [g9 0 (by decide)]; exact h) (by omega) (by omega) ((f9 46 (by decide)).trans hc) (fun j hj => by rw [g9 38 (by decide)]; exact hsl j hj) (fB_len _ _ _ _ _ _ _ _ hln) hF9 e9 (fun I2 A2 f2 g2 hF2 e2 => kk I2 A2 (Fr_cons (Fr_cons (Fr_refl _ _) f9 (by decide)) f2 (by decide)) (Fr_cons (Fr_cons (Fr_refl _ _) g9 (by decide)) g2 (by decide)) hF2 e2)
        · omega
set_option maxRecDepth 100000 in
set_option maxHeartbeats 4000000 in
theorem k_76_2 (h : DK (A 0) D) {cn nn : Nat} {f bc : Nat → Nat} {o a b : Int32} (hcn : cn ≤ 16) (hf : ∀ k, k < cn → f k < 16 ∧ WS D (f k) (bc (f k))) (hn1 : 1 ≤ nn) (hnn : nn ≤ 8) (h0 : I 0 = nI 1) (hc : I 46 = nI cn) (ha : I 47 = a) (hb : I 48 = b) (h1 : ¬ o < a) (h2 : o ≤ b) (hsl : ∀ j, j < cn → A 38 j = nI (f j)) {Q : mO × mHp → Prop} (kk : ∀ I' A', Fr [4, 5, 6, 7, 8, 9, 10, 11, 16, 20, 21, 22] I I' → Fr [5, 6, 7, 8, 9, 10, 11, 12, 13, 14] A A' → FC I' A' (fG D f bc o nn (cn - dF D f o (cn - 1)) (dF D f o (cn - 1)) (eB D (f (dF D f o (cn - 1))) o (bc (f (dF D f o (cn - 1)))) 0 8 0) [] (nI 0)).1 → I' 11 = (fG D f bc o nn (cn - dF D f o (cn - 1)) (dF D f o (cn - 1)) (eB D (f (dF D f o (cn - 1))) o (bc (f (dF D f o (cn - 1)))) 0 8 0) [] (nI 0)).2 → Q (.inl (some (.int (nI (fG D f bc o nn (cn - dF D f o (cn - 1)) (dF D f o (cn - 1)) (eB D (f (dF D f o (cn - 1))) o (bc (f (dF D f o (cn - 1)))) 0 8 0) [] (nI 0)).1.length))), hS n u I' A' J B mk sn L xs X)) : mq 76 0 [some (.ref 1), some (.int (nI 2)), some (.int o), some (.int (nI nn)), none, none, none] [] (hS n u I A J B mk sn L xs X) Q := by
  refine x_al1 (pc := 0) rfl rfl ?_
  refine x_k (pc := 1) rfl rfl rfl ⟨Nat.le_of_ble_eq_true rfl, Nat.le_of_ble_eq_true rfl, Nat.le_of_ble_eq_true rfl⟩ rfl (k_60 (I := I) (A := A) h0 ?_)
  show mq 76 4 [some (.ref 1), some (.int (nI 2)), some (.int o), some (.int (nI nn)), none, none, none] [] (hS n u I A J B mk sn L xs X) _
  refine x_il1 (pc := 4) rfl rfl ?_
  refine x_k (pc := 5) rfl rfl rfl ⟨Nat.le_of_ble_eq_true rfl, Nat.le_of_ble_eq_true rfl, Nat.le_of_ble_eq_true rfl⟩ rfl (k_48 (I := I) (A := A) (by decide) ?_)
  show mq 76 8 [some (.ref 1), some (.int (nI 2)), some (.int o), some (.int (nI nn)), none, none, none] [.int (nI 1)] (hS n u I A J B mk sn L xs X) _
  refine x_ifN_eq (pc := 8) (t := 22) rfl rfl (by decide) (fun c => absurd c (by decide)) (fun _ => ?_)
  refine x_il1 (pc := 11) rfl rfl ?_
  refine x_const (pc := 12) (pc' := 13) (.int (nI 1)) rfl rfl rfl rfl ?_
  refine x_cmpN_lt (pc := 13) (t := 22) rfl rfl (by omega) (by omega) (fun c13 => ?_) (fun c13 => ?_)
  · omega
  · refine x_il1 (pc := 16) rfl rfl ?_
    refine x_const (pc := 17) (pc' := 19) (.int (nI 8)) rfl rfl rfl rfl ?_
    refine x_cmpN_le (pc := 19) (t := 32) rfl rfl (by omega) (by omega) (fun c19 => ?_) (fun c19 => ?_)
    · refine x_al1 (pc := 32) rfl rfl ?_
      refine x_al1 (pc := 33) rfl rfl ?_
      refine g_1_2 (pc := 34) rfl rfl ?_
      refine x_il1 (pc := 37) rfl rfl ?_
      refine aal (pc := 38) (q := 2) (a := 23) rfl rfl (by decide) rfl ?_
      refine x_il1 (pc := 39) rfl rfl ?_
      refine x_k (pc := 40) rfl rfl rfl ⟨Nat.le_of_ble_eq_true rfl, Nat.le_of_ble_eq_true rfl, Nat.le_of_ble_eq_true rfl⟩ rfl (k_77_2 (I := I) (A := A) ha hb h1 h2 ?_)
      show mq 76 43 [some (.ref 1), some (.int (nI 2)), some (.int o), some (.int (nI nn)), none, none, none] [] (hS n u I A J B mk sn L xs X) _
      refine x_al1 (pc := 43) rfl rfl ?_
      refine g_1_4 (pc := 44) rfl rfl ?_
      refine x_const (pc := 47) (pc' := 48) (.int (nI 0)) rfl rfl rfl rfl ?_
      refine p_34_5 (pc := 48) rfl rfl ?_
      refine x_al1 (pc := 51) rfl rfl ?_
      refine x_const (pc := 52) (pc' := 53) (.int (nI 0)) rfl rfl rfl rfl ?_
      refine p_1_11 (pc := 53) rfl rfl ?_
      refine x_al1 (pc := 56) rfl rfl ?_
      refine x_al1 (pc := 57) rfl rfl ?_
      refine g_1_2 (pc := 58) rfl rfl ?_
      refine x_il1 (pc := 61) rfl rfl ?_
      refine aal (pc := 62) (q := 2) (a := 23) rfl rfl (by decide) rfl ?_
      refine x_il1 (pc := 63) rfl rfl ?_
      refine x_k (pc := 64) rfl rfl rfl ⟨Nat.le_of_ble_eq_true rfl, Nat.le_of_ble_eq_true rfl, Nat.le_of_ble_eq_true rfl⟩ rfl (k_78_2 (I := va_up (va_up I 16 (nI 0)) 11 (nI 0)) (A := A) (o := o) h hcn (fun k hk => (hf k hk).1) hc hsl ?_)
      show mq 76 67 [some (.ref 1), some (.int (nI 2)), some (.int o), some (.int (nI nn)), none, none, none] [.int (nI (dF D f o (cn - 1)))] (hS n u (va_up (va_up I 16 (nI 0)) 11 (nI 0)) A J B mk sn L xs X) _
      refine x_is2 (pc := 67) (ml' := [some (.ref 1), some (.int (nI 2)), some (.int o), some (.int (nI nn)), some (.int (nI (dF D f o (cn - 1)))), none, none]) rfl rfl ?_
      refine x_il2 (pc := 69) rfl rfl ?_
      refine x_is2 (pc := 71) (ml' := [some (.ref 1), some (.int (nI 2)), some (.int o), some (.int (nI nn)), some (.int (nI (dF D f o (cn - 1)))), some (.int (nI (dF D f o (cn - 1)))), none]) rfl rfl ?_
      obtain ⟨k, hkd⟩ : ∃ k, k = dF D f o (cn - 1) := ⟨_, rfl⟩
      have hkl := dF_le D f o (cn - 1)
      rw [← hkd] at hkl ⊢
      rw [← hkd] at kk
      rcases Nat.eq_zero_or_pos cn with hk0 | hk0
      · have ek : cn - k = 0 := by omega
        rw [ek] at kk
        refine x_il2 (pc := 73) rfl rfl ?_
        refine x_al1 (pc := 75) rfl rfl ?_
        refine g_1_2 (pc := 76) rfl rfl ?_
        refine x_il1 (pc := 79) rfl rfl ?_
        refine aal (pc := 80) (q := 2) (a := 23) rfl rfl (by decide) rfl ?_
        refine g_23_5 (pc := 81) (v := nI 0) rfl rfl (hc.trans (congrArg nI hk0)) ?_
        refine x_cmpN_ge (pc := 84) (t := 145) rfl rfl (by omega) (by decide) (fun c84 => ?_) (fun c84 => ?_)
        · refine x_al1 (pc := 145) rfl rfl ?_
          refine g_1_4 (pc := 146) rfl rfl ?_
          refine g_34_5 (pc := 149) (v := nI 0) rfl rfl rfl ?_
          refine x_ret (pc := 152) rfl rfl ?_
          exact kk _ _ (Fr_u (Fr_u (Fr_refl _ _) (by decide)) (by decide)) (Fr_refl _ _) ⟨rfl, fun i hi => absurd hi (Nat.not_lt_zero i)⟩ rfl
        · omega
      · have hk : k < cn := by omega
        have hz : cn - k = (cn - k - 1) + 1 := by omega
        have ev : fG D f bc o nn (cn - k) k (eB D (f k) o (bc (f k)) 0 8 0) [] (nI 0) = fG D f bc o nn (cn - k - 1) (k + 1) 0 (fB D (f k) o nn (bc (f k) - eB D (f k) o (bc (f k)) 0 8 0) (eB D (f k) o (bc (f k)) 0 8 0) [] (nI 0)).1 (fB D (f k) o nn (bc (f k) - eB D (f k) o (bc (f k)) 0 8 0) (eB D (f k) o (bc (f k)) 0 8 0) [] (nI 0)).2 := by
          rw [show fG D f bc o nn (cn - k) k (eB D (f k) o (bc (f k)) 0 8 0) [] (nI 0) = fG D f bc o nn ((cn - k - 1) + 1) k (eB D (f k) o (bc (f k)) 0 8 0) [] (nI 0) from congrArg (fun z => fG D f bc o nn z k (eB D (f k) o (bc (f k)) 0 8 0) [] (nI 0)) hz]
          conv => lhs; unfold fG
          rw [if_neg (by simp; omega)]
        rw [ev] at kk
        refine x_il2 (pc := 73) rfl rfl ?_
        refine x_al1 (pc := 75) rfl rfl ?_
        refine g_1_2 (pc := 76) rfl rfl ?_
        refine x_il1 (pc := 79) rfl rfl ?_
        refine aal (pc := 80) (q := 2) (a := 23) rfl rfl (by decide) rfl ?_
        refine g_23_5 (pc := 81) (v := nI cn) rfl rfl hc ?_
        refine x_cmpN_ge (pc := 84) (t := 145) rfl rfl (by omega) (by omega) (fun c84 => ?_) (fun c84 => ?_)
        · omega
        · refine x_al1 (pc := 87) rfl rfl ?_
          refine g_1_4 (pc := 88) rfl rfl ?_
          refine g_34_5 (pc := 91) (v := nI 0) rfl rfl rfl ?_
          refine x_il1 (pc := 94) rfl rfl ?_
          refine x_cmpN_ge (pc := 95) (t := 145) rfl rfl (by decide) (by omega) (fun c95 => ?_) (fun c95 => ?_)
          · omega
          · refine x_al1 (pc := 98) rfl rfl ?_
            refine g_1_2 (pc := 99) rfl rfl ?_
            refine x_il1 (pc := 102) rfl rfl ?_
            refine aal (pc := 103) (q := 2) (a := 23) rfl rfl (by decide) rfl ?_
            refine g_23_1 (pc := 104) rfl rfl ?_
            refine x_il2 (pc := 107) rfl rfl ?_
            refine al_24 (pc := 109) (q := k) (v := nI (f k)) rfl rfl (by omega) (hsl k hk) ?_
            refine x_is2 (pc := 110) (ml' := [some (.ref 1), some (.int (nI 2)), some (.int o), some (.int (nI nn)), some (.int (nI k)), some (.int (nI k)), some (.int (nI (f k)))]) rfl rfl ?_
            refine x_al1 (pc := 112) rfl rfl ?_
            refine x_il2 (pc := 113) rfl rfl ?_
            refine x_il2 (pc := 115) rfl rfl ?_
            refine x_il2 (pc := 117) rfl rfl ?_
            refine x_cmpN_ne (pc := 119) (t := 132) rfl rfl (by omega) (by omega) (fun c119 => ?_) (fun c119 => ?_)
            · exact absurd rfl c119
            · refine x_al1 (pc := 122) rfl rfl ?_
              refine x_il2 (pc := 123) rfl rfl ?_
              refine x_il1 (pc := 125) rfl rfl ?_
              refine x_k (pc := 126) rfl rfl rfl ⟨Nat.le_of_ble_eq_true rfl, Nat.le_of_ble_eq_true rfl, Nat.le_of_ble_eq_true rfl⟩ rfl (k_79 (I := va_up (va_up I 16 (nI 0)) 11 (nI 0)) (A := A) (c := bc (f k)) (o := o) h (hf k hk).1 (hf k hk).2 (fun I8 A8 f8 g8 => ?_))
              show mq 76 129 [some (.ref 1), some (.int (nI 2)), some (.int o), some (.int (nI nn)), some (.int (nI k)), some (.int (nI k)), some (.int (nI (f k)))] [.int (nI (pb D (f k) (eB D (f k) o (bc (f k)) 0 8 0))), .int (nI (f k)), .ref 1] (hS n u I8 A8 J B mk sn L xs X) _
              refine x_step (pc := 129) (pc' := 134) rfl rfl rfl rfl ?_
              refine x_il1 (pc := 134) rfl rfl ?_
              refine x_il1 (pc := 135) rfl rfl ?_
              refine x_k (pc := 136) rfl rfl rfl ⟨Nat.le_of_ble_eq_true rfl, Nat.le_of_ble_eq_true rfl, Nat.le_of_ble_eq_true rfl⟩ rfl (k_80 (I := I8) (A := A8) (j := eB D (f k) o (bc (f k)) 0 8 0) (c := bc (f k)) (l := []) (x := nI 0) (by rw [g8 0 (by decide)]; exact h) (hf k hk).1 (hf k hk).2 (by have := eB_le D (f k) o (bc (f k)) 0 8 0 (Nat.zero_le _); omega) hnn (Nat.zero_le _) ⟨f8 16 (by decide), fun i hi => absurd hi (Nat.not_lt_zero i)⟩ (f8 11 (by decide)) (fun I9 A9 f9 g9 hF9 e9 => ?_))
              show mq 76 139 [some (.ref 1), some (.int (nI 2)), some (.int o), some (.int (nI nn)), some (.int (nI k)), some (.int (nI k)), some (.int (nI (f k)))] [] (hS n u I9 A9 J B mk sn L xs X) _
              refine x_iincN (pc := 139) (c := 1) (ml' := [some (.ref 1), some (.int (nI 2)), some (.int o), some (.int (nI nn)), some (.int (nI k)), some (.int (nI (k + 1))), some (.int (nI (f k)))]) rfl rfl rfl rfl ?_
              refine x_step (pc := 142) (pc' := 73) rfl rfl rfl rfl ?_
              exact l_76_2 hcn hf hnn (cn - k - 1) (k + 1) _ _ _ (I := I9) (A := A9) (by rw [g9 0 (by decide), g8 0 (by decide)]; exact h) (by omega) (by omega) ((f9 46 (by decide)).trans ((f8 46 (by decide)).trans hc)) (fun j hj => by rw [g9 38 (by decide), g8 38 (by decide)]; exact hsl j hj) (fB_len _ _ _ _ _ _ _ _ (Nat.zero_le _)) hF9 e9 (fun I2 A2 f2 g2 hF2 e2 => kk I2 A2 (Fr_cons (Fr_cons (Fr_cons (Fr_u (Fr_u (Fr_refl _ _) (by decide)) (by decide)) f8 (by decide)) f9 (by decide)) f2 (by decide)) (Fr_cons (Fr_cons (Fr_cons (Fr_refl _ _) g8 (by decide)) g9 (by decide)) g2 (by decide)) hF2 e2)
    · omega
set_option maxRecDepth 100000 in
set_option maxHeartbeats 4000000 in
theorem k_76o_2 {nn : Nat} {o a b : Int32} (hn1 : 1 ≤ nn) (hnn : nn ≤ 8) (h0 : I 0 = nI 1) (ha : I 47 = a) (hb : I 48 = b) (hx : o < a ∨ ¬ o ≤ b) (hn : 77 ≤ n ∧ n < 10000) (hu : u + 6 < 1000000) {Q : mO × mHp → Prop} (kk : Q (.inr n, hS (n + 1) (u + 6) I A J B mk sn L xs (va_up X n (.inr (12, []))))) : mq 76 0 [some (.ref 1), some (.int (nI 2)), some (.int o), some (.int (nI nn)), none, none, none] [] (hS n u I A J B mk sn L xs X) Q := by
  refine x_al1 (pc := 0) rfl rfl ?_
  refine x_k (pc := 1) rfl rfl rfl ⟨Nat.le_of_ble_eq_true rfl, Nat.le_of_ble_eq_true rfl, Nat.le_of_ble_eq_true rfl⟩ rfl (k_60 (I := I) (A := A) h0 ?_)
  show mq 76 4 [some (.ref 1), some (.int (nI 2)), some (.int o), some (.int (nI nn)), none, none, none] [] (hS n u I A J B mk sn L xs X) _
  refine x_il1 (pc := 4) rfl rfl ?_
  refine x_k (pc := 5) rfl rfl rfl ⟨Nat.le_of_ble_eq_true rfl, Nat.le_of_ble_eq_true rfl, Nat.le_of_ble_eq_true rfl⟩ rfl (k_48 (I := I) (A := A) (by decide) ?_)
  show mq 76 8 [some (.ref 1), some (.int (nI 2)), some (.int o), some (.int (nI nn)), none, none, none] [.int (nI 1)] (hS n u I A J B mk sn L xs X) _
  refine x_ifN_eq (pc := 8) (t := 22) rfl rfl (by decide) (fun c => absurd c (by decide)) (fun _ => ?_)
  refine x_il1 (pc := 11) rfl rfl ?_
  refine x_const (pc := 12) (pc' := 13) (.int (nI 1)) rfl rfl rfl rfl ?_
  refine x_cmpN_lt (pc := 13) (t := 22) rfl rfl (by omega) (by omega) (fun c13 => ?_) (fun c13 => ?_)
  · omega
  · refine x_il1 (pc := 16) rfl rfl ?_
    refine x_const (pc := 17) (pc' := 19) (.int (nI 8)) rfl rfl rfl rfl ?_
    refine x_cmpN_le (pc := 19) (t := 32) rfl rfl (by omega) (by omega) (fun c19 => ?_) (fun c19 => ?_)
    · refine x_al1 (pc := 32) rfl rfl ?_
      refine x_al1 (pc := 33) rfl rfl ?_
      refine g_1_2 (pc := 34) rfl rfl ?_
      refine x_il1 (pc := 37) rfl rfl ?_
      refine aal (pc := 38) (q := 2) (a := 23) rfl rfl (by decide) rfl ?_
      refine x_il1 (pc := 39) rfl rfl ?_
      exact x_k (pc := 40) rfl rfl rfl ⟨Nat.le_of_ble_eq_true rfl, Nat.le_of_ble_eq_true rfl, Nat.le_of_ble_eq_true rfl⟩ rfl (k_77x_2 ha hb hx hn hu (mK_x rfl kk))
    · omega
set_option maxRecDepth 100000 in
set_option maxHeartbeats 4000000 in
theorem l_78_3 (h : DK (A 0) D) {cn : Nat} {f : Nat → Nat} {o : Int32} (hcn : cn ≤ 16) (hf : ∀ k, k < cn → f k < 16) (hc : I 49 = nI cn) (hsl : ∀ j, j < cn → A 42 j = nI (f j)) {Q : mO × mHp → Prop} : ∀ (z k r : Nat) , (cn ≤ k + z ∧ k + z ≤ 16 ∧ (0 < z → k + z = cn)) → (Q (.inl (some (.int (nI (gF D f o z k r)))), hS n u I A J B mk sn L xs X)) → mq 78 5 [some (.ref 1), some (.ref 28), some (.int o), some (.int (nI r)), some (.int (nI k))] [] (hS n u I A J B mk sn L xs X) Q := by
  intro z
  induction z with
  | zero =>
    intro k r  hz kk
    refine x_il2 (pc := 5) rfl rfl ?_
    refine x_al1 (pc := 7) rfl rfl ?_
    refine g_28_5 (pc := 8) (v := nI cn) rfl rfl hc ?_
    refine x_cmpN_ge (pc := 11) (t := 41) rfl rfl (by omega) (by omega) (fun c11 => ?_) (fun c11 => ?_)
    · refine x_il1 (pc := 41) rfl rfl ?_
      refine x_ret (pc := 42) rfl rfl ?_
      exact kk
    · omega
  | succ z ih =>
    intro k r  hz kk
    refine x_il2 (pc := 5) rfl rfl ?_
    refine x_al1 (pc := 7) rfl rfl ?_
    refine g_28_5 (pc := 8) (v := nI cn) rfl rfl hc ?_
    refine x_cmpN_ge (pc := 11) (t := 41) rfl rfl (by omega) (by omega) (fun c11 => ?_) (fun c11 => ?_)
    · omega
    · refine x_al1 (pc := 14) rfl rfl ?_
      refine g_1_0 (pc := 15) rfl rfl ?_
      refine x_al1 (pc := 18) rfl rfl ?_
      refine g_28_1 (pc := 19) rfl rfl ?_
      refine x_il2 (pc := 22) rfl rfl ?_
      refine al_29 (pc := 24) (q := k) (v := nI (f k)) rfl rfl (by omega) (hsl k (by omega)) ?_
      refine x_k (pc := 25) rfl rfl rfl ⟨Nat.le_of_ble_eq_true rfl, Nat.le_of_ble_eq_true rfl, Nat.le_of_ble_eq_true rfl⟩ rfl (mq_k (c_22 h (hf k (by omega))) ?_)
      show mq 78 28 [some (.ref 1), some (.ref 28), some (.int o), some (.int (nI r)), some (.int (nI k))] [.int (nI (bB D (f k)))] (hS n u I A J B mk sn L xs X) _
      refine x_il1 (pc := 28) rfl rfl ?_
      refine x_cmp_gt (pc := 29) (t := 35) rfl rfl rfl (fun c29 => ?_) (fun c29 => ?_)
      · refine x_iincN (pc := 35) (c := 1) (ml' := [some (.ref 1), some (.ref 28), some (.int o), some (.int (nI r)), some (.int (nI (k + 1)))]) rfl rfl rfl rfl ?_
        refine x_step (pc := 38) (pc' := 5) rfl rfl rfl rfl ?_
        have ev : gF D f o (z + 1) k r = gF D f o z (k + 1) r := by
          conv => lhs; unfold gF
          rw [if_neg (Int32.not_le.mpr c29)]
        rw [ev] at kk
        exact ih (k + 1) r (by omega) kk
      · refine x_il2 (pc := 32) rfl rfl ?_
        refine x_is1 (pc := 34) (ml' := [some (.ref 1), some (.ref 28), some (.int o), some (.int (nI k)), some (.int (nI k))]) rfl rfl ?_
        refine x_iincN (pc := 35) (c := 1) (ml' := [some (.ref 1), some (.ref 28), some (.int o), some (.int (nI k)), some (.int (nI (k + 1)))]) rfl rfl rfl rfl ?_
        refine x_step (pc := 38) (pc' := 5) rfl rfl rfl rfl ?_
        have ev : gF D f o (z + 1) k r = gF D f o z (k + 1) k := by
          conv => lhs; unfold gF
          rw [if_pos (Int32.not_lt.mp c29)]
        rw [ev] at kk
        exact ih (k + 1) k (by omega) kk
set_option maxRecDepth 100000 in
set_option maxHeartbeats 4000000 in
theorem k_78_3 (h : DK (A 0) D) {cn : Nat} {f : Nat → Nat} {o : Int32} (hcn : cn ≤ 16) (hf : ∀ k, k < cn → f k < 16) (hc : I 49 = nI cn) (hsl : ∀ j, j < cn → A 42 j = nI (f j)) {Q : mO × mHp → Prop} (kk : Q (.inl (some (.int (nI (dF D f o (cn - 1))))), hS n u I A J B mk sn L xs X)) : mq 78 0 [some (.ref 1), some (.ref 28), some (.int o), none, none] [] (hS n u I A J B mk sn L xs X) Q := by
  refine x_const (pc := 0) (pc' := 1) (.int (nI 0)) rfl rfl rfl rfl ?_
  refine x_is1 (pc := 1) (ml' := [some (.ref 1), some (.ref 28), some (.int o), some (.int (nI 0)), none]) rfl rfl ?_
  refine x_const (pc := 2) (pc' := 3) (.int (nI 1)) rfl rfl rfl rfl ?_
  refine x_is2 (pc := 3) (ml' := [some (.ref 1), some (.ref 28), some (.int o), some (.int (nI 0)), some (.int (nI 1))]) rfl rfl ?_
  rw [← gF_eq] at kk
  exact l_78_3 h hcn hf hc hsl (cn - 1) 1 0 (by omega) kk
set_option maxRecDepth 100000 in
set_option maxHeartbeats 4000000 in
theorem k_77_3 {o a b : Int32} (ha : I 50 = a) (hb : I 51 = b) (h1 : ¬ o < a) (h2 : o ≤ b) {Q : mO × mHp → Prop} (kk : Q (.inl none, hS n u I A J B mk sn L xs X)) : mq 77 0 [some (.ref 1), some (.ref 28), some (.int o)] [] (hS n u I A J B mk sn L xs X) Q := by
  refine x_il1 (pc := 0) rfl rfl ?_
  refine x_al1 (pc := 1) rfl rfl ?_
  refine g_28_6 (pc := 2) (v := a) rfl rfl ha ?_
  refine x_cmp_lt (pc := 5) (t := 16) rfl rfl rfl (fun c5 => ?_) (fun c5 => ?_)
  · exact absurd c5 h1
  · refine x_il1 (pc := 8) rfl rfl ?_
    refine x_al1 (pc := 9) rfl rfl ?_
    refine g_28_7 (pc := 10) (v := b) rfl rfl hb ?_
    refine x_cmp_le (pc := 13) (t := 27) rfl rfl rfl (fun c13 => ?_) (fun c13 => ?_)
    · refine x_ret (pc := 27) rfl rfl ?_
      exact kk
    · exact absurd h2 c13
set_option maxRecDepth 100000 in
set_option maxHeartbeats 4000000 in
theorem k_77x_3 {o a b : Int32} (ha : I 50 = a) (hb : I 51 = b) (hx : o < a ∨ ¬ o ≤ b) (hn : 77 ≤ n ∧ n < 10000) (hu : u + 6 < 1000000) {Q : mO × mHp → Prop} (kk : Q (.inr n, hS (n + 1) (u + 6) I A J B mk sn L xs (va_up X n (.inr (12, []))))) : mq 77 0 [some (.ref 1), some (.ref 28), some (.int o)] [] (hS n u I A J B mk sn L xs X) Q := by
  refine x_il1 (pc := 0) rfl rfl ?_
  refine x_al1 (pc := 1) rfl rfl ?_
  refine g_28_6 (pc := 2) (v := a) rfl rfl ha ?_
  refine x_cmp_lt (pc := 5) (t := 16) rfl rfl rfl (fun c5 => ?_) (fun c5 => ?_)
  · refine x_thr (pc := 16) rfl rfl hn hu rfl ⟨Nat.le_of_ble_eq_true rfl, Nat.le_of_ble_eq_true rfl⟩ ?_
    exact kk
  · refine x_il1 (pc := 8) rfl rfl ?_
    refine x_al1 (pc := 9) rfl rfl ?_
    refine g_28_7 (pc := 10) (v := b) rfl rfl hb ?_
    refine x_cmp_le (pc := 13) (t := 27) rfl rfl rfl (fun c13 => ?_) (fun c13 => ?_)
    · exact absurd hx (fun q => q.elim c5 (fun q => q c13))
    · refine x_thr (pc := 16) rfl rfl hn hu rfl ⟨Nat.le_of_ble_eq_true rfl, Nat.le_of_ble_eq_true rfl⟩ ?_
      exact kk
set_option maxRecDepth 100000 in
set_option maxHeartbeats 4000000 in
theorem l_76_3 {cn nn fi : Nat} {f bc : Nat → Nat} {o : Int32} (hcn : cn ≤ 16) (hf : ∀ k, k < cn → f k < 16 ∧ WS D (f k) (bc (f k))) (hnn : nn ≤ 8) {Q : mO × mHp → Prop} : ∀ (z k : Nat) (l : List R5) (x : Int32) (w6 : Option Value) {I : Nat → Int32} {A : Nat → Nat → Int32}, (DK (A 0) D) → (k + z = cn) → (fi < k) → (I 49 = nI cn) → (∀ j, j < cn → A 42 j = nI (f j)) → (l.length ≤ nn) → (FC I A l) → (I 11 = x) → (∀ I' A', Fr [4, 5, 6, 7, 8, 9, 10, 11, 16, 20, 21, 22] I I' → Fr [5, 6, 7, 8, 9, 10, 11, 12, 13, 14] A A' → FC I' A' (fG D f bc o nn z k 0 l x).1 → I' 11 = (fG D f bc o nn z k 0 l x).2 → Q (.inl (some (.int (nI (fG D f bc o nn z k 0 l x).1.length))), hS n u I' A' J B mk sn L xs X)) → mq 76 73 [some (.ref 1), some (.int (nI 3)), some (.int o), some (.int (nI nn)), some (.int (nI fi)), some (.int (nI k)), w6] [] (hS n u I A J B mk sn L xs X) Q := by
  intro z
  induction z with
  | zero =>
    intro k l x w6 I A h hz hfi hc hsl hln hF h11 kk
    refine x_il2 (pc := 73) rfl rfl ?_
    refine x_al1 (pc := 75) rfl rfl ?_
    refine g_1_2 (pc := 76) rfl rfl ?_
    refine x_il1 (pc := 79) rfl rfl ?_
    refine aal (pc := 80) (q := 3) (a := 28) rfl rfl (by decide) rfl ?_
    refine g_28_5 (pc := 81) (v := nI cn) rfl rfl hc ?_
    refine x_cmpN_ge (pc := 84) (t := 145) rfl rfl (by omega) (by omega) (fun c84 => ?_) (fun c84 => ?_)
    · refine x_al1 (pc := 145) rfl rfl ?_
      refine g_1_4 (pc := 146) rfl rfl ?_
      refine g_34_5 (pc := 149) (v := nI l.length) rfl rfl hF.1 ?_
      refine x_ret (pc := 152) rfl rfl ?_
      exact kk I A (Fr_refl _ _) (Fr_refl _ _) hF h11
    · omega
  | succ z ih =>
    intro k l x w6 I A h hz hfi hc hsl hln hF h11 kk
    refine x_il2 (pc := 73) rfl rfl ?_
    refine x_al1 (pc := 75) rfl rfl ?_
    refine g_1_2 (pc := 76) rfl rfl ?_
    refine x_il1 (pc := 79) rfl rfl ?_
    refine aal (pc := 80) (q := 3) (a := 28) rfl rfl (by decide) rfl ?_
    refine g_28_5 (pc := 81) (v := nI cn) rfl rfl hc ?_
    refine x_cmpN_ge (pc := 84) (t := 145) rfl rfl (by omega) (by omega) (fun c84 => ?_) (fun c84 => ?_)
    · omega
    · refine x_al1 (pc := 87) rfl rfl ?_
      refine g_1_4 (pc := 88) rfl rfl ?_
      refine g_34_5 (pc := 91) (v := nI l.length) rfl rfl hF.1 ?_
      refine x_il1 (pc := 94) rfl rfl ?_
      refine x_cmpN_ge (pc := 95) (t := 145) rfl rfl (by omega) (by omega) (fun c95 => ?_) (fun c95 => ?_)
      · have ev : fG D f bc o nn (z + 1) k 0 l x = (l, x) := by
          unfold fG
          rw [if_pos c95]
        rw [ev] at kk
        refine x_al1 (pc := 145) rfl rfl ?_
        refine g_1_4 (pc := 146) rfl rfl ?_
        refine g_34_5 (pc := 149) (v := nI l.length) rfl rfl hF.1 ?_
        refine x_ret (pc := 152) rfl rfl ?_
        exact kk I A (Fr_refl _ _) (Fr_refl _ _) hF h11
      · refine x_al1 (pc := 98) rfl rfl ?_
        refine g_1_2 (pc := 99) rfl rfl ?_
        refine x_il1 (pc := 102) rfl rfl ?_
        refine aal (pc := 103) (q := 3) (a := 28) rfl rfl (by decide) rfl ?_
        refine g_28_1 (pc := 104) rfl rfl ?_
        refine x_il2 (pc := 107) rfl rfl ?_
        refine al_29 (pc := 109) (q := k) (v := nI (f k)) rfl rfl (by omega) (hsl k (by omega)) ?_
        refine x_is2 (pc := 110) (ml' := [some (.ref 1), some (.int (nI 3)), some (.int o), some (.int (nI nn)), some (.int (nI fi)), some (.int (nI k)), some (.int (nI (f k)))]) rfl rfl ?_
        refine x_al1 (pc := 112) rfl rfl ?_
        refine x_il2 (pc := 113) rfl rfl ?_
        refine x_il2 (pc := 115) rfl rfl ?_
        refine x_il2 (pc := 117) rfl rfl ?_
        refine x_cmpN_ne (pc := 119) (t := 132) rfl rfl (by omega) (by omega) (fun c119 => ?_) (fun c119 => ?_)
        · refine x_const (pc := 132) (pc' := 134) (.int (nI 8)) rfl rfl rfl rfl ?_
          refine x_top (y := nI (pb D (f k) 0)) (congrArg nI (pb_0 D (f k)).symm) ?_
          refine x_il1 (pc := 134) rfl rfl ?_
          refine x_il1 (pc := 135) rfl rfl ?_
          refine x_k (pc := 136) rfl rfl rfl ⟨Nat.le_of_ble_eq_true rfl, Nat.le_of_ble_eq_true rfl, Nat.le_of_ble_eq_true rfl⟩ rfl (k_80 (I := I) (A := A) (j := 0) (c := bc (f k)) h (hf k (by omega)).1 (hf k (by omega)).2 (Nat.zero_le _) hnn hln hF h11 (fun I9 A9 f9 g9 hF9 e9 => ?_))
          show mq 76 139 [some (.ref 1), some (.int (nI 3)), some (.int o), some (.int (nI nn)), some (.int (nI fi)), some (.int (nI k)), some (.int (nI (f k)))] [] (hS n u I9 A9 J B mk sn L xs X) _
          refine x_iincN (pc := 139) (c := 1) (ml' := [some (.ref 1), some (.int (nI 3)), some (.int o), some (.int (nI nn)), some (.int (nI fi)), some (.int (nI (k + 1))), some (.int (nI (f k)))]) rfl rfl rfl rfl ?_
          refine x_step (pc := 142) (pc' := 73) rfl rfl rfl rfl ?_
          have ev : fG D f bc o nn (z + 1) k 0 l x = fG D f bc o nn z (k + 1) 0 (fB D (f k) o nn (bc (f k) - 0) 0 l x).1 (fB D (f k) o nn (bc (f k) - 0) 0 l x).2 := by
            conv => lhs; unfold fG
            rw [if_neg c95]
          rw [ev] at kk
          exact ih (k + 1) _ _ _ (I := I9) (A := A9) (by rw [g9 0 (by decide)]; exact h) (by omega) (by omega) ((f9 49 (by decide)).trans hc) (fun j hj => by rw [g9 42 (by decide)]; exact hsl j hj) (fB_len _ _ _ _ _ _ _ _ hln) hF9 e9 (fun I2 A2 f2 g2 hF2 e2 => kk I2 A2 (Fr_cons (Fr_cons (Fr_refl _ _) f9 (by decide)) f2 (by decide)) (Fr_cons (Fr_cons (Fr_refl _ _) g9 (by decide)) g2 (by decide)) hF2 e2)
        · omega
set_option maxRecDepth 100000 in
set_option maxHeartbeats 4000000 in
theorem k_76_3 (h : DK (A 0) D) {cn nn : Nat} {f bc : Nat → Nat} {o a b : Int32} (hcn : cn ≤ 16) (hf : ∀ k, k < cn → f k < 16 ∧ WS D (f k) (bc (f k))) (hn1 : 1 ≤ nn) (hnn : nn ≤ 8) (h0 : I 0 = nI 1) (hc : I 49 = nI cn) (ha : I 50 = a) (hb : I 51 = b) (h1 : ¬ o < a) (h2 : o ≤ b) (hsl : ∀ j, j < cn → A 42 j = nI (f j)) {Q : mO × mHp → Prop} (kk : ∀ I' A', Fr [4, 5, 6, 7, 8, 9, 10, 11, 16, 20, 21, 22] I I' → Fr [5, 6, 7, 8, 9, 10, 11, 12, 13, 14] A A' → FC I' A' (fG D f bc o nn (cn - dF D f o (cn - 1)) (dF D f o (cn - 1)) (eB D (f (dF D f o (cn - 1))) o (bc (f (dF D f o (cn - 1)))) 0 8 0) [] (nI 0)).1 → I' 11 = (fG D f bc o nn (cn - dF D f o (cn - 1)) (dF D f o (cn - 1)) (eB D (f (dF D f o (cn - 1))) o (bc (f (dF D f o (cn - 1)))) 0 8 0) [] (nI 0)).2 → Q (.inl (some (.int (nI (fG D f bc o nn (cn - dF D f o (cn - 1)) (dF D f o (cn - 1)) (eB D (f (dF D f o (cn - 1))) o (bc (f (dF D f o (cn - 1)))) 0 8 0) [] (nI 0)).1.length))), hS n u I' A' J B mk sn L xs X)) : mq 76 0 [some (.ref 1), some (.int (nI 3)), some (.int o), some (.int (nI nn)), none, none, none] [] (hS n u I A J B mk sn L xs X) Q := by
  refine x_al1 (pc := 0) rfl rfl ?_
  refine x_k (pc := 1) rfl rfl rfl ⟨Nat.le_of_ble_eq_true rfl, Nat.le_of_ble_eq_true rfl, Nat.le_of_ble_eq_true rfl⟩ rfl (k_60 (I := I) (A := A) h0 ?_)
  show mq 76 4 [some (.ref 1), some (.int (nI 3)), some (.int o), some (.int (nI nn)), none, none, none] [] (hS n u I A J B mk sn L xs X) _
  refine x_il1 (pc := 4) rfl rfl ?_
  refine x_k (pc := 5) rfl rfl rfl ⟨Nat.le_of_ble_eq_true rfl, Nat.le_of_ble_eq_true rfl, Nat.le_of_ble_eq_true rfl⟩ rfl (k_48 (I := I) (A := A) (by decide) ?_)
  show mq 76 8 [some (.ref 1), some (.int (nI 3)), some (.int o), some (.int (nI nn)), none, none, none] [.int (nI 1)] (hS n u I A J B mk sn L xs X) _
  refine x_ifN_eq (pc := 8) (t := 22) rfl rfl (by decide) (fun c => absurd c (by decide)) (fun _ => ?_)
  refine x_il1 (pc := 11) rfl rfl ?_
  refine x_const (pc := 12) (pc' := 13) (.int (nI 1)) rfl rfl rfl rfl ?_
  refine x_cmpN_lt (pc := 13) (t := 22) rfl rfl (by omega) (by omega) (fun c13 => ?_) (fun c13 => ?_)
  · omega
  · refine x_il1 (pc := 16) rfl rfl ?_
    refine x_const (pc := 17) (pc' := 19) (.int (nI 8)) rfl rfl rfl rfl ?_
    refine x_cmpN_le (pc := 19) (t := 32) rfl rfl (by omega) (by omega) (fun c19 => ?_) (fun c19 => ?_)
    · refine x_al1 (pc := 32) rfl rfl ?_
      refine x_al1 (pc := 33) rfl rfl ?_
      refine g_1_2 (pc := 34) rfl rfl ?_
      refine x_il1 (pc := 37) rfl rfl ?_
      refine aal (pc := 38) (q := 3) (a := 28) rfl rfl (by decide) rfl ?_
      refine x_il1 (pc := 39) rfl rfl ?_
      refine x_k (pc := 40) rfl rfl rfl ⟨Nat.le_of_ble_eq_true rfl, Nat.le_of_ble_eq_true rfl, Nat.le_of_ble_eq_true rfl⟩ rfl (k_77_3 (I := I) (A := A) ha hb h1 h2 ?_)
      show mq 76 43 [some (.ref 1), some (.int (nI 3)), some (.int o), some (.int (nI nn)), none, none, none] [] (hS n u I A J B mk sn L xs X) _
      refine x_al1 (pc := 43) rfl rfl ?_
      refine g_1_4 (pc := 44) rfl rfl ?_
      refine x_const (pc := 47) (pc' := 48) (.int (nI 0)) rfl rfl rfl rfl ?_
      refine p_34_5 (pc := 48) rfl rfl ?_
      refine x_al1 (pc := 51) rfl rfl ?_
      refine x_const (pc := 52) (pc' := 53) (.int (nI 0)) rfl rfl rfl rfl ?_
      refine p_1_11 (pc := 53) rfl rfl ?_
      refine x_al1 (pc := 56) rfl rfl ?_
      refine x_al1 (pc := 57) rfl rfl ?_
      refine g_1_2 (pc := 58) rfl rfl ?_
      refine x_il1 (pc := 61) rfl rfl ?_
      refine aal (pc := 62) (q := 3) (a := 28) rfl rfl (by decide) rfl ?_
      refine x_il1 (pc := 63) rfl rfl ?_
      refine x_k (pc := 64) rfl rfl rfl ⟨Nat.le_of_ble_eq_true rfl, Nat.le_of_ble_eq_true rfl, Nat.le_of_ble_eq_true rfl⟩ rfl (k_78_3 (I := va_up (va_up I 16 (nI 0)) 11 (nI 0)) (A := A) (o := o) h hcn (fun k hk => (hf k hk).1) hc hsl ?_)
      show mq 76 67 [some (.ref 1), some (.int (nI 3)), some (.int o), some (.int (nI nn)), none, none, none] [.int (nI (dF D f o (cn - 1)))] (hS n u (va_up (va_up I 16 (nI 0)) 11 (nI 0)) A J B mk sn L xs X) _
      refine x_is2 (pc := 67) (ml' := [some (.ref 1), some (.int (nI 3)), some (.int o), some (.int (nI nn)), some (.int (nI (dF D f o (cn - 1)))), none, none]) rfl rfl ?_
      refine x_il2 (pc := 69) rfl rfl ?_
      refine x_is2 (pc := 71) (ml' := [some (.ref 1), some (.int (nI 3)), some (.int o), some (.int (nI nn)), some (.int (nI (dF D f o (cn - 1)))), some (.int (nI (dF D f o (cn - 1)))), none]) rfl rfl ?_
      obtain ⟨k, hkd⟩ : ∃ k, k = dF D f o (cn - 1) := ⟨_, rfl⟩
      have hkl := dF_le D f o (cn - 1)
      rw [← hkd] at hkl ⊢
      rw [← hkd] at kk
      rcases Nat.eq_zero_or_pos cn with hk0 | hk0
      · have ek : cn - k = 0 := by omega
        rw [ek] at kk
        refine x_il2 (pc := 73) rfl rfl ?_
        refine x_al1 (pc := 75) rfl rfl ?_
        refine g_1_2 (pc := 76) rfl rfl ?_
        refine x_il1 (pc := 79) rfl rfl ?_
        refine aal (pc := 80) (q := 3) (a := 28) rfl rfl (by decide) rfl ?_
        refine g_28_5 (pc := 81) (v := nI 0) rfl rfl (hc.trans (congrArg nI hk0)) ?_
        refine x_cmpN_ge (pc := 84) (t := 145) rfl rfl (by omega) (by decide) (fun c84 => ?_) (fun c84 => ?_)
        · refine x_al1 (pc := 145) rfl rfl ?_
          refine g_1_4 (pc := 146) rfl rfl ?_
          refine g_34_5 (pc := 149) (v := nI 0) rfl rfl rfl ?_
          refine x_ret (pc := 152) rfl rfl ?_
          exact kk _ _ (Fr_u (Fr_u (Fr_refl _ _) (by decide)) (by decide)) (Fr_refl _ _) ⟨rfl, fun i hi => absurd hi (Nat.not_lt_zero i)⟩ rfl
        · omega
      · have hk : k < cn := by omega
        have hz : cn - k = (cn - k - 1) + 1 := by omega
        have ev : fG D f bc o nn (cn - k) k (eB D (f k) o (bc (f k)) 0 8 0) [] (nI 0) = fG D f bc o nn (cn - k - 1) (k + 1) 0 (fB D (f k) o nn (bc (f k) - eB D (f k) o (bc (f k)) 0 8 0) (eB D (f k) o (bc (f k)) 0 8 0) [] (nI 0)).1 (fB D (f k) o nn (bc (f k) - eB D (f k) o (bc (f k)) 0 8 0) (eB D (f k) o (bc (f k)) 0 8 0) [] (nI 0)).2 := by
          rw [show fG D f bc o nn (cn - k) k (eB D (f k) o (bc (f k)) 0 8 0) [] (nI 0) = fG D f bc o nn ((cn - k - 1) + 1) k (eB D (f k) o (bc (f k)) 0 8 0) [] (nI 0) from congrArg (fun z => fG D f bc o nn z k (eB D (f k) o (bc (f k)) 0 8 0) [] (nI 0)) hz]
          conv => lhs; unfold fG
          rw [if_neg (by simp; omega)]
        rw [ev] at kk
        refine x_il2 (pc := 73) rfl rfl ?_
        refine x_al1 (pc := 75) rfl rfl ?_
        refine g_1_2 (pc := 76) rfl rfl ?_
        refine x_il1 (pc := 79) rfl rfl ?_
        refine aal (pc := 80) (q := 3) (a := 28) rfl rfl (by decide) rfl ?_
        refine g_28_5 (pc := 81) (v := nI cn) rfl rfl hc ?_
        refine x_cmpN_ge (pc := 84) (t := 145) rfl rfl (by omega) (by omega) (fun c84 => ?_) (fun c84 => ?_)
        · omega
        · refine x_al1 (pc := 87) rfl rfl ?_
          refine g_1_4 (pc := 88) rfl rfl ?_
          refine g_34_5 (pc := 91) (v := nI 0) rfl rfl rfl ?_
          refine x_il1 (pc := 94) rfl rfl ?_
          refine x_cmpN_ge (pc := 95) (t := 145) rfl rfl (by decide) (by omega) (fun c95 => ?_) (fun c95 => ?_)
          · omega
          · refine x_al1 (pc := 98) rfl rfl ?_
            refine g_1_2 (pc := 99) rfl rfl ?_
            refine x_il1 (pc := 102) rfl rfl ?_
            refine aal (pc := 103) (q := 3) (a := 28) rfl rfl (by decide) rfl ?_
            refine g_28_1 (pc := 104) rfl rfl ?_
            refine x_il2 (pc := 107) rfl rfl ?_
            refine al_29 (pc := 109) (q := k) (v := nI (f k)) rfl rfl (by omega) (hsl k hk) ?_
            refine x_is2 (pc := 110) (ml' := [some (.ref 1), some (.int (nI 3)), some (.int o), some (.int (nI nn)), some (.int (nI k)), some (.int (nI k)), some (.int (nI (f k)))]) rfl rfl ?_
            refine x_al1 (pc := 112) rfl rfl ?_
            refine x_il2 (pc := 113) rfl rfl ?_
            refine x_il2 (pc := 115) rfl rfl ?_
            refine x_il2 (pc := 117) rfl rfl ?_
            refine x_cmpN_ne (pc := 119) (t := 132) rfl rfl (by omega) (by omega) (fun c119 => ?_) (fun c119 => ?_)
            · exact absurd rfl c119
            · refine x_al1 (pc := 122) rfl rfl ?_
              refine x_il2 (pc := 123) rfl rfl ?_
              refine x_il1 (pc := 125) rfl rfl ?_
              refine x_k (pc := 126) rfl rfl rfl ⟨Nat.le_of_ble_eq_true rfl, Nat.le_of_ble_eq_true rfl, Nat.le_of_ble_eq_true rfl⟩ rfl (k_79 (I := va_up (va_up I 16 (nI 0)) 11 (nI 0)) (A := A) (c := bc (f k)) (o := o) h (hf k hk).1 (hf k hk).2 (fun I8 A8 f8 g8 => ?_))
              show mq 76 129 [some (.ref 1), some (.int (nI 3)), some (.int o), some (.int (nI nn)), some (.int (nI k)), some (.int (nI k)), some (.int (nI (f k)))] [.int (nI (pb D (f k) (eB D (f k) o (bc (f k)) 0 8 0))), .int (nI (f k)), .ref 1] (hS n u I8 A8 J B mk sn L xs X) _
              refine x_step (pc := 129) (pc' := 134) rfl rfl rfl rfl ?_
              refine x_il1 (pc := 134) rfl rfl ?_
              refine x_il1 (pc := 135) rfl rfl ?_
              refine x_k (pc := 136) rfl rfl rfl ⟨Nat.le_of_ble_eq_true rfl, Nat.le_of_ble_eq_true rfl, Nat.le_of_ble_eq_true rfl⟩ rfl (k_80 (I := I8) (A := A8) (j := eB D (f k) o (bc (f k)) 0 8 0) (c := bc (f k)) (l := []) (x := nI 0) (by rw [g8 0 (by decide)]; exact h) (hf k hk).1 (hf k hk).2 (by have := eB_le D (f k) o (bc (f k)) 0 8 0 (Nat.zero_le _); omega) hnn (Nat.zero_le _) ⟨f8 16 (by decide), fun i hi => absurd hi (Nat.not_lt_zero i)⟩ (f8 11 (by decide)) (fun I9 A9 f9 g9 hF9 e9 => ?_))
              show mq 76 139 [some (.ref 1), some (.int (nI 3)), some (.int o), some (.int (nI nn)), some (.int (nI k)), some (.int (nI k)), some (.int (nI (f k)))] [] (hS n u I9 A9 J B mk sn L xs X) _
              refine x_iincN (pc := 139) (c := 1) (ml' := [some (.ref 1), some (.int (nI 3)), some (.int o), some (.int (nI nn)), some (.int (nI k)), some (.int (nI (k + 1))), some (.int (nI (f k)))]) rfl rfl rfl rfl ?_
              refine x_step (pc := 142) (pc' := 73) rfl rfl rfl rfl ?_
              exact l_76_3 hcn hf hnn (cn - k - 1) (k + 1) _ _ _ (I := I9) (A := A9) (by rw [g9 0 (by decide), g8 0 (by decide)]; exact h) (by omega) (by omega) ((f9 49 (by decide)).trans ((f8 49 (by decide)).trans hc)) (fun j hj => by rw [g9 42 (by decide), g8 42 (by decide)]; exact hsl j hj) (fB_len _ _ _ _ _ _ _ _ (Nat.zero_le _)) hF9 e9 (fun I2 A2 f2 g2 hF2 e2 => kk I2 A2 (Fr_cons (Fr_cons (Fr_cons (Fr_u (Fr_u (Fr_refl _ _) (by decide)) (by decide)) f8 (by decide)) f9 (by decide)) f2 (by decide)) (Fr_cons (Fr_cons (Fr_cons (Fr_refl _ _) g8 (by decide)) g9 (by decide)) g2 (by decide)) hF2 e2)
    · omega
set_option maxRecDepth 100000 in
set_option maxHeartbeats 4000000 in
theorem k_76o_3 {nn : Nat} {o a b : Int32} (hn1 : 1 ≤ nn) (hnn : nn ≤ 8) (h0 : I 0 = nI 1) (ha : I 50 = a) (hb : I 51 = b) (hx : o < a ∨ ¬ o ≤ b) (hn : 77 ≤ n ∧ n < 10000) (hu : u + 6 < 1000000) {Q : mO × mHp → Prop} (kk : Q (.inr n, hS (n + 1) (u + 6) I A J B mk sn L xs (va_up X n (.inr (12, []))))) : mq 76 0 [some (.ref 1), some (.int (nI 3)), some (.int o), some (.int (nI nn)), none, none, none] [] (hS n u I A J B mk sn L xs X) Q := by
  refine x_al1 (pc := 0) rfl rfl ?_
  refine x_k (pc := 1) rfl rfl rfl ⟨Nat.le_of_ble_eq_true rfl, Nat.le_of_ble_eq_true rfl, Nat.le_of_ble_eq_true rfl⟩ rfl (k_60 (I := I) (A := A) h0 ?_)
  show mq 76 4 [some (.ref 1), some (.int (nI 3)), some (.int o), some (.int (nI nn)), none, none, none] [] (hS n u I A J B mk sn L xs X) _
  refine x_il1 (pc := 4) rfl rfl ?_
  refine x_k (pc := 5) rfl rfl rfl ⟨Nat.le_of_ble_eq_true rfl, Nat.le_of_ble_eq_true rfl, Nat.le_of_ble_eq_true rfl⟩ rfl (k_48 (I := I) (A := A) (by decide) ?_)
  show mq 76 8 [some (.ref 1), some (.int (nI 3)), some (.int o), some (.int (nI nn)), none, none, none] [.int (nI 1)] (hS n u I A J B mk sn L xs X) _
  refine x_ifN_eq (pc := 8) (t := 22) rfl rfl (by decide) (fun c => absurd c (by decide)) (fun _ => ?_)
  refine x_il1 (pc := 11) rfl rfl ?_
  refine x_const (pc := 12) (pc' := 13) (.int (nI 1)) rfl rfl rfl rfl ?_
  refine x_cmpN_lt (pc := 13) (t := 22) rfl rfl (by omega) (by omega) (fun c13 => ?_) (fun c13 => ?_)
  · omega
  · refine x_il1 (pc := 16) rfl rfl ?_
    refine x_const (pc := 17) (pc' := 19) (.int (nI 8)) rfl rfl rfl rfl ?_
    refine x_cmpN_le (pc := 19) (t := 32) rfl rfl (by omega) (by omega) (fun c19 => ?_) (fun c19 => ?_)
    · refine x_al1 (pc := 32) rfl rfl ?_
      refine x_al1 (pc := 33) rfl rfl ?_
      refine g_1_2 (pc := 34) rfl rfl ?_
      refine x_il1 (pc := 37) rfl rfl ?_
      refine aal (pc := 38) (q := 3) (a := 28) rfl rfl (by decide) rfl ?_
      refine x_il1 (pc := 39) rfl rfl ?_
      exact x_k (pc := 40) rfl rfl rfl ⟨Nat.le_of_ble_eq_true rfl, Nat.le_of_ble_eq_true rfl, Nat.le_of_ble_eq_true rfl⟩ rfl (k_77x_3 ha hb hx hn hu (mK_x rfl kk))
    · omega
set_option maxRecDepth 100000 in
set_option maxHeartbeats 4000000 in
theorem k_76x {l o nn : Int32} (h0 : I 0 = nI 0) (hn : 77 ≤ n ∧ n < 10000) (hu : u + 6 < 1000000) {Q : mO × mHp → Prop} (kk : Q (.inr n, hS (n + 1) (u + 6) I A J B mk sn L xs (va_up X n (.inr (9, []))))) : mq 76 0 [some (.ref 1), some (.int l), some (.int o), some (.int nn), none, none, none] [] (hS n u I A J B mk sn L xs X) Q := by
  refine x_al1 (pc := 0) rfl rfl ?_
  refine x_k (pc := 1) rfl rfl rfl ⟨Nat.le_of_ble_eq_true rfl, Nat.le_of_ble_eq_true rfl, Nat.le_of_ble_eq_true rfl⟩ rfl (k_60x h0 hn hu (mK_x rfl ?_))
  exact kk
set_option maxRecDepth 100000 in
set_option maxHeartbeats 4000000 in
theorem k_76b {l o nn : Int32} (h0 : I 0 = nI 1) (hx : l < 0 ∨ nI 4 ≤ l) (hn : 77 ≤ n ∧ n < 10000) (hu : u + 6 < 1000000) {Q : mO × mHp → Prop} (kk : Q (.inr n, hS (n + 1) (u + 6) I A J B mk sn L xs (va_up X n (.inr (10, []))))) : mq 76 0 [some (.ref 1), some (.int l), some (.int o), some (.int nn), none, none, none] [] (hS n u I A J B mk sn L xs X) Q := by
  refine x_al1 (pc := 0) rfl rfl ?_
  refine x_k (pc := 1) rfl rfl rfl ⟨Nat.le_of_ble_eq_true rfl, Nat.le_of_ble_eq_true rfl, Nat.le_of_ble_eq_true rfl⟩ rfl (k_60 (I := I) (A := A) h0 ?_)
  show mq 76 4 [some (.ref 1), some (.int l), some (.int o), some (.int nn), none, none, none] [] (hS n u I A J B mk sn L xs X) _
  refine x_il1 (pc := 4) rfl rfl ?_
  refine x_k (pc := 5) rfl rfl rfl ⟨Nat.le_of_ble_eq_true rfl, Nat.le_of_ble_eq_true rfl, Nat.le_of_ble_eq_true rfl⟩ rfl (k_48b (I := I) (A := A) hx ?_)
  show mq 76 8 [some (.ref 1), some (.int l), some (.int o), some (.int nn), none, none, none] [.int (nI 0)] (hS n u I A J B mk sn L xs X) _
  refine x_ifN_eq (pc := 8) (t := 22) rfl rfl (by decide) (fun _ => ?_) (fun c => absurd c (by decide))
  refine x_thr (pc := 22) rfl rfl hn hu rfl ⟨Nat.le_of_ble_eq_true rfl, Nat.le_of_ble_eq_true rfl⟩ ?_
  exact kk
set_option maxRecDepth 100000 in
set_option maxHeartbeats 4000000 in
theorem k_76c {l : Nat} {o nn : Int32} (h0 : I 0 = nI 1) (hl : l < 4) (hx : nn < nI 1 ∨ ¬ nn ≤ nI 8) (hn : 77 ≤ n ∧ n < 10000) (hu : u + 6 < 1000000) {Q : mO × mHp → Prop} (kk : Q (.inr n, hS (n + 1) (u + 6) I A J B mk sn L xs (va_up X n (.inr (10, []))))) : mq 76 0 [some (.ref 1), some (.int (nI l)), some (.int o), some (.int nn), none, none, none] [] (hS n u I A J B mk sn L xs X) Q := by
  refine x_al1 (pc := 0) rfl rfl ?_
  refine x_k (pc := 1) rfl rfl rfl ⟨Nat.le_of_ble_eq_true rfl, Nat.le_of_ble_eq_true rfl, Nat.le_of_ble_eq_true rfl⟩ rfl (k_60 (I := I) (A := A) h0 ?_)
  show mq 76 4 [some (.ref 1), some (.int (nI l)), some (.int o), some (.int nn), none, none, none] [] (hS n u I A J B mk sn L xs X) _
  refine x_il1 (pc := 4) rfl rfl ?_
  refine x_k (pc := 5) rfl rfl rfl ⟨Nat.le_of_ble_eq_true rfl, Nat.le_of_ble_eq_true rfl, Nat.le_of_ble_eq_true rfl⟩ rfl (k_48 (I := I) (A := A) hl ?_)
  show mq 76 8 [some (.ref 1), some (.int (nI l)), some (.int o), some (.int nn), none, none, none] [.int (nI 1)] (hS n u I A J B mk sn L xs X) _
  refine x_ifN_eq (pc := 8) (t := 22) rfl rfl (by decide) (fun c => absurd c (by decide)) (fun _ => ?_)
  refine x_il1 (pc := 11) rfl rfl ?_
  refine x_const (pc := 12) (pc' := 13) (.int (nI 1)) rfl rfl rfl rfl ?_
  refine x_cmp_lt (pc := 13) (t := 22) rfl rfl rfl (fun c13 => ?_) (fun c13 => ?_)
  · refine x_thr (pc := 22) rfl rfl hn hu rfl ⟨Nat.le_of_ble_eq_true rfl, Nat.le_of_ble_eq_true rfl⟩ ?_
    exact kk
  · refine x_il1 (pc := 16) rfl rfl ?_
    refine x_const (pc := 17) (pc' := 19) (.int (nI 8)) rfl rfl rfl rfl ?_
    refine x_cmp_le (pc := 19) (t := 32) rfl rfl rfl (fun c19 => ?_) (fun c19 => ?_)
    · exact absurd hx (fun q => q.elim c13 (fun q => q c19))
    · refine x_thr (pc := 22) rfl rfl hn hu rfl ⟨Nat.le_of_ble_eq_true rfl, Nat.le_of_ble_eq_true rfl⟩ ?_
      exact kk
end S38
