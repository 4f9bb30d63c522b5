/-! Log: what it tells. -/
/-- marks and entries, summed up -/
def mkS (D : Nat → Nat) (f : Nat → Nat) : Nat → Nat → Nat
  | 0, _ => 0
  | z + 1, i => mB D (f i) + mkS D f z (i + 1)
def nE (D : Nat → Nat) (s : Nat) : Nat → Nat → Nat → Nat
  | 0, _, _ => 0
  | z + 1, j, e => (if e ≤ pb D s j then 1 else 0) + nE D s z (j + 1) (eN e (pb D s j))
def nL (D : Nat → Nat) (f bc : Nat → Nat) : Nat → Nat → Nat
  | 0, _ => 0
  | z + 1, i => nE D (f i) (bc (f i)) 0 8 + nL D f bc z (i + 1)
theorem nE_le (D : Nat → Nat) (s : Nat) : ∀ z j e, nE D s z j e ≤ z
  | 0, _, _ => Nat.le_refl 0
  | z + 1, j, e => by
    have := nE_le D s z (j + 1) (eN e (pb D s j))
    unfold nE
    split <;> omega
def lgv (D : Nat → Nat) (f bc : Nat → Nat) (a b : Int32) (n : Nat) (w : Int32) : Int32 := lkv a b (nI n) (nI (mkS D f n 0)) (nI (nL D f bc n 0)) (if n = 0 then -1 else nI (bB D (f (n - 1)))) w
section S41v
variable {a b c d e f : Int32}
theorem lkv_0 : lkv a b c d e f (nI 0) = a := rfl
theorem lkv_1 : lkv a b c d e f (nI 1) = b := rfl
theorem lkv_2 : lkv a b c d e f (nI 2) = c := rfl
theorem lkv_3 : lkv a b c d e f (nI 3) = d := rfl
theorem lkv_4 : lkv a b c d e f (nI 4) = e := rfl
theorem lkv_5 : lkv a b c d e f (nI 5) = f := rfl
end S41v
section S41
variable {n u : Nat} {I : Nat → Int32} {A : Nat → Nat → Int32} {J : Int64} {B : Nat → Int64} {mk sn L : Nat} {xs : Nat → Int32} {X : Nat → mC} {D : Nat → Nat} 
set_option maxRecDepth 100000 in
set_option maxHeartbeats 4000000 in
theorem l_49_0 (h : DK (A 0) D) {cn : Nat} {f bc : Nat → Nat} {w2 : Int32} (hcn : cn ≤ 16) (hf : ∀ k, k < cn → f k < 16 ∧ WS D (f k) (bc (f k))) (hc : I 40 = nI cn) (hsl : ∀ j, j < cn → A 30 j = nI (f j)) {Q : mO × mHp → Prop} : ∀ (z a k : Nat) , (k + z = cn ∨ (z = 0 ∧ cn ≤ k ∧ k ≤ 16)) → (Q (.inl (some (.int (nI (a + mkS D f z k)))), hS n u I A J B mk sn L xs X)) → mq 49 5 [some (.ref 1), some (.ref 13), some (.int w2), some (.int (nI a)), some (.int (nI k))] [] (hS n u I A J B mk sn L xs X) Q := by
  intro z
  induction z with
  | zero =>
    intro a k  hz kk
    refine x_il2 (pc := 5) rfl rfl ?_
    refine x_al1 (pc := 7) rfl rfl ?_
    refine g_13_5 (pc := 8) (v := nI cn) rfl rfl hc ?_
    refine x_cmpN_ge (pc := 11) (t := 37) rfl rfl (by omega) (by omega) (fun c11 => ?_) (fun c11 => ?_)
    · refine x_il1 (pc := 37) rfl rfl ?_
      refine x_ret (pc := 38) rfl rfl ?_
      exact kk
    · omega
  | succ z ih =>
    intro a k  hz kk
    refine x_il2 (pc := 5) rfl rfl ?_
    refine x_al1 (pc := 7) rfl rfl ?_
    refine g_13_5 (pc := 8) (v := nI cn) rfl rfl hc ?_
    refine x_cmpN_ge (pc := 11) (t := 37) rfl rfl (by omega) (by omega) (fun c11 => ?_) (fun c11 => ?_)
    · omega
    · refine x_il1 (pc := 14) rfl rfl ?_
      refine x_al1 (pc := 15) rfl rfl ?_
      refine g_1_0 (pc := 16) rfl rfl ?_
      refine x_al1 (pc := 19) rfl rfl ?_
      refine g_13_1 (pc := 20) rfl rfl ?_
      refine x_il2 (pc := 23) rfl rfl ?_
      refine al_14 (pc := 25) (q := k) (v := nI (f k)) rfl rfl (by omega) (hsl k (by omega)) ?_
      refine x_k (pc := 26) rfl rfl rfl ⟨Nat.le_of_ble_eq_true rfl, Nat.le_of_ble_eq_true rfl, Nat.le_of_ble_eq_true rfl⟩ rfl (mq_k (c_37 h (hf k (by omega)).1) ?_)
      show mq 49 29 [some (.ref 1), some (.ref 13), some (.int w2), some (.int (nI a)), some (.int (nI k))] [.int (nI (mB D (f k))), .int (nI a)] (hS n u I A J B mk sn L xs X) _
      refine x_iaddN (pc := 29) (c := a + (mB D (f k))) rfl rfl ?_
      refine x_is1 (pc := 30) (ml' := [some (.ref 1), some (.ref 13), some (.int w2), some (.int (nI (a + (mB D (f k))))), some (.int (nI k))]) rfl rfl ?_
      refine x_iincN (pc := 31) (c := 1) (ml' := [some (.ref 1), some (.ref 13), some (.int w2), some (.int (nI (a + (mB D (f k))))), some (.int (nI (k + 1)))]) rfl rfl rfl rfl ?_
      refine x_step (pc := 34) (pc' := 5) rfl rfl rfl rfl ?_
      have ev : a + mkS D f (z + 1) k = a + mB D (f k) + mkS D f z (k + 1) := by
        show a + (mB D (f k) + mkS D f z (k + 1)) = _
        omega
      rw [ev] at kk
      exact ih (a + mB D (f k)) (k + 1) (by omega) kk
set_option maxRecDepth 100000 in
set_option maxHeartbeats 4000000 in
theorem k_49_0 (h : DK (A 0) D) {cn j : Nat} {f bc : Nat → Nat} (hj : j ≤ 1) (hcn : cn ≤ 16) (hf : ∀ k, k < cn → f k < 16 ∧ WS D (f k) (bc (f k))) (hc : I 40 = nI cn) (hsl : ∀ j, j < cn → A 30 j = nI (f j)) {Q : mO × mHp → Prop} (kk : Q (.inl (some (.int (nI (mkS D f (cn - j) j)))), hS n u I A J B mk sn L xs X)) : mq 49 0 [some (.ref 1), some (.ref 13), some (.int (nI j)), none, none] [] (hS n u I A J B mk sn L xs X) Q := by
  refine x_const (pc := 0) (pc' := 1) (.int (nI 0)) rfl rfl rfl rfl ?_
  refine x_is1 (pc := 1) (ml' := [some (.ref 1), some (.ref 13), some (.int (nI j)), some (.int (nI 0)), none]) rfl rfl ?_
  refine x_il1 (pc := 2) rfl rfl ?_
  refine x_is2 (pc := 3) (ml' := [some (.ref 1), some (.ref 13), some (.int (nI j)), some (.int (nI 0)), some (.int (nI j))]) rfl rfl ?_
  rw [← Nat.zero_add (mkS D f (cn - j) j)] at kk
  exact l_49_0 h hcn hf hc hsl (cn - j) 0 j (by omega) kk
set_option maxRecDepth 100000 in
set_option maxHeartbeats 4000000 in
theorem l_50b_0 {s c k : Nat} (hs : s < 16) (hW : WS D s c) {Q : mO × mHp → Prop} : ∀ (z a j e : Nat) {I : Nat → Int32} {A : Nat → Nat → Int32}, (DK (A 0) D) → (j + z = c) → (RS I D s j e) → (e < 1000) → (∀ I' A' j', Fr [4, 5, 6, 7, 8, 9, 10, 20, 21, 22] I I' → Fr [10, 11, 12, 13, 14] A A' → mq 50 72 [some (.ref 1), some (.ref 13), some (.int (nI (a + nE D s z j e))), some (.int (nI k)), some (.int (nI j'))] [] (hS n u I' A' J B mk sn L xs X) Q) → mq 50 30 [some (.ref 1), some (.ref 13), some (.int (nI a)), some (.int (nI k)), some (.int (nI j))] [] (hS n u I A J B mk sn L xs X) Q := by
  intro z
  induction z with
  | zero =>
    intro a j e I A h hz hR he kk
    have q8 := WS_8 hW
    have q9 := WS_128 hW
    refine x_il2 (pc := 30) rfl rfl ?_
    refine x_const (pc := 32) (pc' := 35) (.int (nI 128)) rfl rfl rfl rfl ?_
    refine x_cmpN_ge (pc := 35) (t := 72) rfl rfl (by omega) (by omega) (fun c35 => ?_) (fun c35 => ?_)
    · omega
    · refine x_al1 (pc := 38) rfl rfl ?_
      refine g_1_1 (pc := 39) rfl rfl ?_
      refine x_k (pc := 42) rfl rfl rfl ⟨Nat.le_of_ble_eq_true rfl, Nat.le_of_ble_eq_true rfl, Nat.le_of_ble_eq_true rfl⟩ rfl (rs_end (I := I) (A := A) hW (by omega) hR ?_)
      show mq 50 45 [some (.ref 1), some (.ref 13), some (.int (nI a)), some (.int (nI k)), some (.int (nI j))] [.int (nI 0)] (hS n u I A J B mk sn L xs X) _
      refine x_ifN_eq (pc := 45) (t := 72) rfl rfl (by decide) (fun _ => ?_) (fun c => absurd c (by decide))
      exact kk I A j (Fr_refl _ _) (Fr_refl _ _)
  | succ z ih =>
    intro a j e I A h hz hR he kk
    have hj : j < c := by omega
    have q8 := WS_8 hW
    have q9 := WS_128 hW
    refine x_il2 (pc := 30) rfl rfl ?_
    refine x_const (pc := 32) (pc' := 35) (.int (nI 128)) rfl rfl rfl rfl ?_
    refine x_cmpN_ge (pc := 35) (t := 72) rfl rfl (by omega) (by omega) (fun c35 => ?_) (fun c35 => ?_)
    · omega
    · refine x_al1 (pc := 38) rfl rfl ?_
      refine g_1_1 (pc := 39) rfl rfl ?_
      refine x_k (pc := 42) rfl rfl rfl ⟨Nat.le_of_ble_eq_true rfl, Nat.le_of_ble_eq_true rfl, Nat.le_of_ble_eq_true rfl⟩ rfl (rs_step (I := I) (A := A) h hs hW hj hR he (fun I1 A1 f1 g1 hR1 e7 e10 hb => ?_))
      show mq 50 45 [some (.ref 1), some (.ref 13), some (.int (nI a)), some (.int (nI k)), some (.int (nI j))] [.int (nI 1)] (hS n u I1 A1 J B mk sn L xs X) _
      refine x_ifN_eq (pc := 45) (t := 72) rfl rfl (by decide) (fun c => absurd c (by decide)) (fun _ => ?_)
      refine x_il1 (pc := 48) rfl rfl ?_
      refine x_al1 (pc := 49) rfl rfl ?_
      refine g_1_1 (pc := 50) rfl rfl ?_
      refine g_4_8 (pc := 53) (v := nI (if e ≤ pb D s j then 1 else 0)) rfl rfl e10 ?_
      refine x_ifN_eq (pc := 56) (t := 63) rfl rfl (by split <;> omega) (fun c56 => ?_) (fun c56 => ?_)
      · have c56 : ¬ e ≤ pb D s j := fun q => absurd c56 (by rw [if_pos q]; decide)
        refine x_const (pc := 63) (pc' := 64) (.int (nI 0)) rfl rfl rfl rfl ?_
        refine x_iaddN (pc := 64) (c := a + 0) rfl rfl ?_
        refine x_is1 (pc := 65) (ml' := [some (.ref 1), some (.ref 13), some (.int (nI (a + 0))), some (.int (nI k)), some (.int (nI j))]) rfl rfl ?_
        refine x_iincN (pc := 66) (c := 1) (ml' := [some (.ref 1), some (.ref 13), some (.int (nI (a + 0))), some (.int (nI k)), some (.int (nI (j + 1)))]) rfl rfl rfl rfl ?_
        refine x_step (pc := 69) (pc' := 30) rfl rfl rfl rfl ?_
        have ev : a + nE D s (z + 1) j e = a + 0 + nE D s z (j + 1) (eN e (pb D s j)) := by
          show a + ((if e ≤ pb D s j then 1 else 0) + nE D s z (j + 1) (eN e (pb D s j))) = _
          rw [if_neg c56]
          omega
        rw [ev] at kk
        exact ih (a + 0) (j + 1) (eN e (pb D s j)) (I := I1) (A := A1) (by rw [g1 0 (by decide)]; exact h) (by omega) hR1 (eN_lt he (pb_le hW (by omega))) (fun I2 A2 j2 f2 g2 => kk I2 A2 j2 (Fr_cons (Fr_cons (Fr_refl _ _) f1 (by decide)) f2 (by decide)) (Fr_cons (Fr_cons (Fr_refl _ _) g1 (by decide)) g2 (by decide)))
      · have c56 : e ≤ pb D s j := Classical.byContradiction fun q => c56 (if_neg q)
        refine x_const (pc := 59) (pc' := 60) (.int (nI 1)) rfl rfl rfl rfl ?_
        refine x_step (pc := 60) (pc' := 64) rfl rfl rfl rfl ?_
        refine x_iaddN (pc := 64) (c := a + 1) rfl rfl ?_
        refine x_is1 (pc := 65) (ml' := [some (.ref 1), some (.ref 13), some (.int (nI (a + 1))), some (.int (nI k)), some (.int (nI j))]) rfl rfl ?_
        refine x_iincN (pc := 66) (c := 1) (ml' := [some (.ref 1), some (.ref 13), some (.int (nI (a + 1))), some (.int (nI k)), some (.int (nI (j + 1)))]) rfl rfl rfl rfl ?_
        refine x_step (pc := 69) (pc' := 30) rfl rfl rfl rfl ?_
        have ev : a + nE D s (z + 1) j e = a + 1 + nE D s z (j + 1) (eN e (pb D s j)) := by
          show a + ((if e ≤ pb D s j then 1 else 0) + nE D s z (j + 1) (eN e (pb D s j))) = _
          rw [if_pos c56]
          omega
        rw [ev] at kk
        exact ih (a + 1) (j + 1) (eN e (pb D s j)) (I := I1) (A := A1) (by rw [g1 0 (by decide)]; exact h) (by omega) hR1 (eN_lt he (pb_le hW (by omega))) (fun I2 A2 j2 f2 g2 => kk I2 A2 j2 (Fr_cons (Fr_cons (Fr_refl _ _) f1 (by decide)) f2 (by decide)) (Fr_cons (Fr_cons (Fr_refl _ _) g1 (by decide)) g2 (by decide)))
set_option maxRecDepth 100000 in
set_option maxHeartbeats 4000000 in
theorem l_50_0 {cn : Nat} {f bc : Nat → Nat} (hcn : cn ≤ 16) (hf : ∀ k, k < cn → f k < 16 ∧ WS D (f k) (bc (f k))) {Q : mO × mHp → Prop} : ∀ (z a k : Nat) (w4 : Option Value) {I : Nat → Int32} {A : Nat → Nat → Int32}, (DK (A 0) D) → (k + z = cn) → (I 40 = nI cn) → (∀ j, j < cn → A 30 j = nI (f j)) → (∀ I' A', Fr [4, 5, 6, 7, 8, 9, 10, 20, 21, 22] I I' → Fr [10, 11, 12, 13, 14] A A' → Q (.inl (some (.int (nI (a + nL D f bc z k)))), hS n u I' A' J B mk sn L xs X)) → mq 50 4 [some (.ref 1), some (.ref 13), some (.int (nI a)), some (.int (nI k)), w4] [] (hS n u I A J B mk sn L xs X) Q := by
  intro z
  induction z with
  | zero =>
    intro a k w4 I A h hz hc hsl kk
    refine x_il1 (pc := 4) rfl rfl ?_
    refine x_al1 (pc := 5) rfl rfl ?_
    refine g_13_5 (pc := 6) (v := nI cn) rfl rfl hc ?_
    refine x_cmpN_ge (pc := 9) (t := 78) rfl rfl (by omega) (by omega) (fun c9 => ?_) (fun c9 => ?_)
    · refine x_il1 (pc := 78) rfl rfl ?_
      refine x_ret (pc := 79) rfl rfl ?_
      exact kk I A (Fr_refl _ _) (Fr_refl _ _)
    · omega
  | succ z ih =>
    intro a k w4 I A h hz hc hsl kk
    have hk : k < cn := by omega
    refine x_il1 (pc := 4) rfl rfl ?_
    refine x_al1 (pc := 5) rfl rfl ?_
    refine g_13_5 (pc := 6) (v := nI cn) rfl rfl hc ?_
    refine x_cmpN_ge (pc := 9) (t := 78) rfl rfl (by omega) (by omega) (fun c9 => ?_) (fun c9 => ?_)
    · omega
    · refine x_al1 (pc := 12) rfl rfl ?_
      refine g_1_1 (pc := 13) rfl rfl ?_
      refine x_al1 (pc := 16) rfl rfl ?_
      refine g_13_1 (pc := 17) rfl rfl ?_
      refine x_il1 (pc := 20) rfl rfl ?_
      refine al_14 (pc := 21) (q := k) (v := nI (f k)) rfl rfl (by omega) (hsl k hk) ?_
      refine x_const (pc := 22) (pc' := 24) (.int (nI 8)) rfl rfl rfl rfl ?_
      refine x_k (pc := 24) rfl rfl rfl ⟨Nat.le_of_ble_eq_true rfl, Nat.le_of_ble_eq_true rfl, Nat.le_of_ble_eq_true rfl⟩ rfl (rs_open (I := I) (A := A) (j := 0) (c := bc (f k)) h (hf k hk).1 (hf k hk).2 (Nat.zero_le _) (pb_0 D (f k)).symm (fun I1 f1 hR => ?_))
      show mq 50 27 [some (.ref 1), some (.ref 13), some (.int (nI a)), some (.int (nI k)), w4] [] (hS n u I1 A J B mk sn L xs X) _
      refine x_const (pc := 27) (pc' := 28) (.int (nI 0)) rfl rfl rfl rfl ?_
      refine x_is2 (pc := 28) (ml' := [some (.ref 1), some (.ref 13), some (.int (nI a)), some (.int (nI k)), some (.int (nI 0))]) rfl rfl ?_
      refine l_50b_0 (I := I1) (A := A) (s := f k) (c := bc (f k)) (hf k hk).1 (hf k hk).2 (bc (f k)) a 0 8 h (Nat.zero_add _) hR (by decide) (fun I2 A2 j2 f2 g2 => ?_)
      refine x_iincN (pc := 72) (c := 1) (ml' := [some (.ref 1), some (.ref 13), some (.int (nI (a + nE D (f k) (bc (f k)) 0 8))), some (.int (nI (k + 1))), some (.int (nI j2))]) rfl rfl rfl rfl ?_
      refine x_step (pc := 75) (pc' := 4) rfl rfl rfl rfl ?_
      have ev : a + nL D f bc (z + 1) k = a + nE D (f k) (bc (f k)) 0 8 + nL D f bc z (k + 1) := by
        show a + (nE D (f k) (bc (f k)) 0 8 + nL D f bc z (k + 1)) = _
        omega
      rw [ev] at kk
      exact ih (a + nE D (f k) (bc (f k)) 0 8) (k + 1) _ (I := I2) (A := A2) (by rw [g2 0 (by decide)]; exact h) (by omega) ((f2 40 (by decide)).trans ((f1 40 (by decide)).trans hc)) (fun j hj => by rw [g2 30 (by decide)]; exact hsl j hj) (fun I3 A3 f3 g3 => kk I3 A3 (Fr_cons (Fr_cons (Fr_cons (Fr_refl _ _) f1 (by decide)) f2 (by decide)) f3 (by decide)) (Fr_cons (Fr_cons (Fr_refl _ _) g2 (by decide)) g3 (by decide)))
set_option maxRecDepth 100000 in
set_option maxHeartbeats 4000000 in
theorem k_50_0 (h : DK (A 0) D) {cn : Nat} {f bc : Nat → Nat} (hcn : cn ≤ 16) (hf : ∀ k, k < cn → f k < 16 ∧ WS D (f k) (bc (f k))) (hc : I 40 = nI cn) (hsl : ∀ j, j < cn → A 30 j = nI (f j)) {Q : mO × mHp → Prop} (kk : ∀ I' A', Fr [4, 5, 6, 7, 8, 9, 10, 20, 21, 22] I I' → Fr [10, 11, 12, 13, 14] A A' → Q (.inl (some (.int (nI (nL D f bc cn 0)))), hS n u I' A' J B mk sn L xs X)) : mq 50 0 [some (.ref 1), some (.ref 13), none, none, none] [] (hS n u I A J B mk sn L xs X) Q := by
  refine x_const (pc := 0) (pc' := 1) (.int (nI 0)) rfl rfl rfl rfl ?_
  refine x_is1 (pc := 1) (ml' := [some (.ref 1), some (.ref 13), some (.int (nI 0)), none, none]) rfl rfl ?_
  refine x_const (pc := 2) (pc' := 3) (.int (nI 0)) rfl rfl rfl rfl ?_
  refine x_is1 (pc := 3) (ml' := [some (.ref 1), some (.ref 13), some (.int (nI 0)), some (.int (nI 0)), none]) rfl rfl ?_
  rw [← Nat.zero_add (nL D f bc cn 0)] at kk
  exact l_50_0 hcn hf cn 0 0 none h (Nat.zero_add _) hc hsl kk
set_option maxRecDepth 100000 in
set_option maxHeartbeats 4000000 in
theorem k_51_0 {cn : Nat} {f : Nat → Nat} (hcn : cn ≤ 16) (hc : I 40 = nI cn) (hsl : ∀ j, j < cn → A 30 j = nI (f j)) (hp : 0 < cn) {Q : mO × mHp → Prop} (kk : Q (.inl (some (.int (nI (f (cn - 1))))), hS n u I A J B mk sn L xs X)) : mq 51 0 [some (.ref 13)] [] (hS n u I A J B mk sn L xs X) Q := by
  refine x_al1 (pc := 0) rfl rfl ?_
  refine g_13_5 (pc := 1) (v := nI cn) rfl rfl hc ?_
  refine x_ifN_le (pc := 4) (t := 21) rfl rfl (by omega) (fun c4 => ?_) (fun c4 => ?_)
  · omega
  · refine x_al1 (pc := 7) rfl rfl ?_
    refine g_13_1 (pc := 8) rfl rfl ?_
    refine x_al1 (pc := 11) rfl rfl ?_
    refine g_13_5 (pc := 12) (v := nI cn) rfl rfl hc ?_
    refine x_const (pc := 15) (pc' := 16) (.int (nI 1)) rfl rfl rfl rfl ?_
    refine x_isubN (pc := 16) rfl (hp) ?_
    refine al_14 (pc := 17) (q := cn - 1) (v := nI (f (cn - 1))) rfl rfl (by omega) (hsl _ (by omega)) ?_
    refine x_step (pc := 18) (pc' := 22) rfl rfl rfl rfl ?_
    refine x_ret (pc := 22) rfl rfl ?_
    exact kk
set_option maxRecDepth 100000 in
set_option maxHeartbeats 4000000 in
theorem k_47_0 (h : DK (A 0) D) {cn : Nat} {f bc : Nat → Nat} {a b w : Int32} (hcn : cn ≤ 16) (hf : ∀ k, k < cn → f k < 16 ∧ WS D (f k) (bc (f k))) (hc : I 40 = nI cn) (hsl : ∀ j, j < cn → A 30 j = nI (f j)) (ha : I 41 = a) (hb : I 42 = b) {Q : mO × mHp → Prop} (kk : ∀ I' A', Fr [4, 5, 6, 7, 8, 9, 10, 20, 21, 22] I I' → Fr [10, 11, 12, 13, 14] A A' → Q (.inl (some (.int (lgv D f bc a b cn w))), hS n u I' A' J B mk sn L xs X)) : mq 47 0 [some (.ref 1), some (.int (nI 0)), some (.int w), none] [] (hS n u I A J B mk sn L xs X) Q := by
  refine x_il1 (pc := 0) rfl rfl ?_
  refine x_k (pc := 1) rfl rfl rfl ⟨Nat.le_of_ble_eq_true rfl, Nat.le_of_ble_eq_true rfl, Nat.le_of_ble_eq_true rfl⟩ rfl (k_48 (I := I) (A := A) (by decide) ?_)
  show mq 47 4 [some (.ref 1), some (.int (nI 0)), some (.int w), none] [.int (nI 1)] (hS n u I A J B mk sn L xs X) _
  refine x_ifN_ne (pc := 4) (t := 9) rfl rfl (by decide) (fun _ => ?_) (fun c => absurd c (by decide))
  refine x_al1 (pc := 9) rfl rfl ?_
  refine g_1_2 (pc := 10) rfl rfl ?_
  refine x_il1 (pc := 13) rfl rfl ?_
  refine aal (pc := 14) (q := 0) (a := 13) rfl rfl (by decide) rfl ?_
  refine x_as1 (pc := 15) (ml' := [some (.ref 1), some (.int (nI 0)), some (.int w), some (.ref 13)]) rfl rfl ?_
  refine x_il1 (pc := 16) rfl rfl ?_
  rcases pk_ix w (n := 6) (by decide) with c17 | c17 | ⟨j17, c17, e17⟩
  · refine x_tabd (pc := 17) (t := 107) rfl rfl (Or.inl (tab_lt c17)) ?_
    refine x_const (pc := 107) (pc' := 108) (.int (-1)) rfl rfl rfl rfl ?_
    refine x_ret (pc := 108) rfl rfl ?_
    have ev : lgv D f bc a b cn w = -1 := lkv_b (by first | exact Or.inl c17 | exact Or.inr c17)
    rw [ev] at kk
    exact kk I A (Fr_refl _ _) (Fr_refl _ _)
  · refine x_tabd (pc := 17) (t := 107) rfl rfl (Or.inr (tab_ge (n := 5) (by decide) c17)) ?_
    refine x_const (pc := 107) (pc' := 108) (.int (-1)) rfl rfl rfl rfl ?_
    refine x_ret (pc := 108) rfl rfl ?_
    have ev : lgv D f bc a b cn w = -1 := lkv_b (by first | exact Or.inl c17 | exact Or.inr c17)
    rw [ev] at kk
    exact kk I A (Fr_refl _ _) (Fr_refl _ _)
  · match j17, c17, e17 with
    | 0, _, e17 =>
      refine x_tabi (pc := 17) (i := 0) (t := 56) rfl rfl e17 ?_
      refine x_al1 (pc := 56) rfl rfl ?_
      refine g_13_6 (pc := 57) (v := a) rfl rfl ha ?_
      refine x_ret (pc := 60) rfl rfl ?_
      subst e17
      have ev : lgv D f bc a b cn (nI 0) = a := lkv_0
      rw [ev] at kk
      exact kk _ _ (Fr_refl _ _) (Fr_refl _ _)
    | 1, _, e17 =>
      refine x_tabi (pc := 17) (i := 1) (t := 61) rfl rfl e17 ?_
      refine x_al1 (pc := 61) rfl rfl ?_
      refine g_13_7 (pc := 62) (v := b) rfl rfl hb ?_
      refine x_ret (pc := 65) rfl rfl ?_
      subst e17
      have ev : lgv D f bc a b cn (nI 1) = b := lkv_1
      rw [ev] at kk
      exact kk _ _ (Fr_refl _ _) (Fr_refl _ _)
    | 2, _, e17 =>
      refine x_tabi (pc := 17) (i := 2) (t := 66) rfl rfl e17 ?_
      refine x_al1 (pc := 66) rfl rfl ?_
      refine g_13_5 (pc := 67) (v := nI cn) rfl rfl hc ?_
      refine x_ret (pc := 70) rfl rfl ?_
      subst e17
      have ev : lgv D f bc a b cn (nI 2) = nI cn := lkv_2
      rw [ev] at kk
      exact kk _ _ (Fr_refl _ _) (Fr_refl _ _)
    | 3, _, e17 =>
      refine x_tabi (pc := 17) (i := 3) (t := 71) rfl rfl e17 ?_
      refine x_al1 (pc := 71) rfl rfl ?_
      refine x_al1 (pc := 72) rfl rfl ?_
      refine x_const (pc := 73) (pc' := 74) (.int (nI 0)) rfl rfl rfl rfl ?_
      refine x_k (pc := 74) rfl rfl rfl ⟨Nat.le_of_ble_eq_true rfl, Nat.le_of_ble_eq_true rfl, Nat.le_of_ble_eq_true rfl⟩ rfl (k_49_0 (I := I) (A := A) (j := 0) h (Nat.zero_le _) hcn hf hc hsl ?_)
      show mq 47 77 [some (.ref 1), some (.int (nI 0)), some (.int w), some (.ref 13)] [.int (nI (mkS D f (cn - 0) 0))] (hS n u I A J B mk sn L xs X) _
      refine x_ret (pc := 77) rfl rfl ?_
      subst e17
      have ev : lgv D f bc a b cn (nI 3) = nI (mkS D f cn 0) := lkv_3
      rw [ev] at kk
      rw [Nat.sub_zero]
      exact kk I A (Fr_refl _ _) (Fr_refl _ _)
    | 4, _, e17 =>
      refine x_tabi (pc := 17) (i := 4) (t := 78) rfl rfl e17 ?_
      refine x_al1 (pc := 78) rfl rfl ?_
      refine x_al1 (pc := 79) rfl rfl ?_
      refine x_k (pc := 80) rfl rfl rfl ⟨Nat.le_of_ble_eq_true rfl, Nat.le_of_ble_eq_true rfl, Nat.le_of_ble_eq_true rfl⟩ rfl (k_50_0 (I := I) (A := A) h hcn hf hc hsl (fun I1 A1 f1 g1 => ?_))
      show mq 47 83 [some (.ref 1), some (.int (nI 0)), some (.int w), some (.ref 13)] [.int (nI (nL D f bc cn 0))] (hS n u I1 A1 J B mk sn L xs X) _
      refine x_ret (pc := 83) rfl rfl ?_
      subst e17
      have ev : lgv D f bc a b cn (nI 4) = nI (nL D f bc cn 0) := lkv_4
      rw [ev] at kk
      exact kk _ _ (Fr_cons (Fr_refl _ _) f1 (by decide)) (Fr_cons (Fr_refl _ _) g1 (by decide))
    | 5, _, e17 =>
      refine x_tabi (pc := 17) (i := 5) (t := 84) rfl rfl e17 ?_
      refine x_al1 (pc := 84) rfl rfl ?_
      refine g_13_5 (pc := 85) (v := nI cn) rfl rfl hc ?_
      refine x_ifN_ne (pc := 88) (t := 95) rfl rfl (by omega) (fun c88 => ?_) (fun c88 => ?_)
      · refine x_al1 (pc := 95) rfl rfl ?_
        refine g_1_0 (pc := 96) rfl rfl ?_
        refine x_al1 (pc := 99) rfl rfl ?_
        refine x_k (pc := 100) rfl rfl rfl ⟨Nat.le_of_ble_eq_true rfl, Nat.le_of_ble_eq_true rfl, Nat.le_of_ble_eq_true rfl⟩ rfl (k_51_0 (I := I) (A := A) hcn hc hsl (by omega) ?_)
        show mq 47 103 [some (.ref 1), some (.int (nI 0)), some (.int w), some (.ref 13)] [.int (nI (f (cn - 1))), .ref 2] (hS n u I A J B mk sn L xs X) _
        refine x_k (pc := 103) rfl rfl rfl ⟨Nat.le_of_ble_eq_true rfl, Nat.le_of_ble_eq_true rfl, Nat.le_of_ble_eq_true rfl⟩ rfl (mq_k (c_22 h (hf _ (by omega)).1) ?_)
        show mq 47 106 [some (.ref 1), some (.int (nI 0)), some (.int w), some (.ref 13)] [.int (nI (bB D (f (cn - 1))))] (hS n u I A J B mk sn L xs X) _
        refine x_ret (pc := 106) rfl rfl ?_
        subst e17
        have ev : lgv D f bc a b cn (nI 5) = (if cn = 0 then -1 else nI (bB D (f (cn - 1)))) := lkv_5
        rw [ev] at kk
        rw [if_neg c88] at kk
        exact kk I A (Fr_refl _ _) (Fr_refl _ _)
      · refine x_const (pc := 91) (pc' := 92) (.int (-1)) rfl rfl rfl rfl ?_
        refine x_step (pc := 92) (pc' := 106) rfl rfl rfl rfl ?_
        refine x_ret (pc := 106) rfl rfl ?_
        subst e17
        have ev : lgv D f bc a b cn (nI 5) = (if cn = 0 then -1 else nI (bB D (f (cn - 1)))) := lkv_5
        rw [ev] at kk
        rw [if_pos c88] at kk
        exact kk I A (Fr_refl _ _) (Fr_refl _ _)
set_option maxRecDepth 100000 in
set_option maxHeartbeats 4000000 in
theorem l_49_1 (h : DK (A 0) D) {cn : Nat} {f bc : Nat → Nat} {w2 : Int32} (hcn : cn ≤ 16) (hf : ∀ k, k < cn → f k < 16 ∧ WS D (f k) (bc (f k))) (hc : I 43 = nI cn) (hsl : ∀ j, j < cn → A 34 j = nI (f j)) {Q : mO × mHp → Prop} : ∀ (z a k : Nat) , (k + z = cn ∨ (z = 0 ∧ cn ≤ k ∧ k ≤ 16)) → (Q (.inl (some (.int (nI (a + mkS D f z k)))), hS n u I A J B mk sn L xs X)) → mq 49 5 [some (.ref 1), some (.ref 18), some (.int w2), some (.int (nI a)), some (.int (nI k))] [] (hS n u I A J B mk sn L xs X) Q := by
  intro z
  induction z with
  | zero =>
    intro a k  hz kk
    refine x_il2 (pc := 5) rfl rfl ?_
    refine x_al1 (pc := 7) rfl rfl ?_
    refine g_18_5 (pc := 8) (v := nI cn) rfl rfl hc ?_
    refine x_cmpN_ge (pc := 11) (t := 37) rfl rfl (by omega) (by omega) (fun c11 => ?_) (fun c11 => ?_)
    · refine x_il1 (pc := 37) rfl rfl ?_
      refine x_ret (pc := 38) rfl rfl ?_
      exact kk
    · omega
  | succ z ih =>
    intro a k  hz kk
    refine x_il2 (pc := 5) rfl rfl ?_
    refine x_al1 (pc := 7) rfl rfl ?_
    refine g_18_5 (pc := 8) (v := nI cn) rfl rfl hc ?_
    refine x_cmpN_ge (pc := 11) (t := 37) rfl rfl (by omega) (by omega) (fun c11 => ?_) (fun c11 => ?_)
    · omega
    · refine x_il1 (pc := 14) rfl rfl ?_
      refine x_al1 (pc := 15) rfl rfl ?_
      refine g_1_0 (pc := 16) rfl rfl ?_
      refine x_al1 (pc := 19) rfl rfl ?_
      refine g_18_1 (pc := 20) rfl rfl ?_
      refine x_il2 (pc := 23) rfl rfl ?_
      refine al_19 (pc := 25) (q := k) (v := nI (f k)) rfl rfl (by omega) (hsl k (by omega)) ?_
      refine x_k (pc := 26) rfl rfl rfl ⟨Nat.le_of_ble_eq_true rfl, Nat.le_of_ble_eq_true rfl, Nat.le_of_ble_eq_true rfl⟩ rfl (mq_k (c_37 h (hf k (by omega)).1) ?_)
      show mq 49 29 [some (.ref 1), some (.ref 18), some (.int w2), some (.int (nI a)), some (.int (nI k))] [.int (nI (mB D (f k))), .int (nI a)] (hS n u I A J B mk sn L xs X) _
      refine x_iaddN (pc := 29) (c := a + (mB D (f k))) rfl rfl ?_
      refine x_is1 (pc := 30) (ml' := [some (.ref 1), some (.ref 18), some (.int w2), some (.int (nI (a + (mB D (f k))))), some (.int (nI k))]) rfl rfl ?_
      refine x_iincN (pc := 31) (c := 1) (ml' := [some (.ref 1), some (.ref 18), some (.int w2), some (.int (nI (a + (mB D (f k))))), some (.int (nI (k + 1)))]) rfl rfl rfl rfl ?_
      refine x_step (pc := 34) (pc' := 5) rfl rfl rfl rfl ?_
      have ev : a + mkS D f (z + 1) k = a + mB D (f k) + mkS D f z (k + 1) := by
        show a + (mB D (f k) + mkS D f z (k + 1)) = _
        omega
      rw [ev] at kk
      exact ih (a + mB D (f k)) (k + 1) (by omega) kk
set_option maxRecDepth 100000 in
set_option maxHeartbeats 4000000 in
theorem k_49_1 (h : DK (A 0) D) {cn j : Nat} {f bc : Nat → Nat} (hj : j ≤ 1) (hcn : cn ≤ 16) (hf : ∀ k, k < cn → f k < 16 ∧ WS D (f k) (bc (f k))) (hc : I 43 = nI cn) (hsl : ∀ j, j < cn → A 34 j = nI (f j)) {Q : mO × mHp → Prop} (kk : Q (.inl (some (.int (nI (mkS D f (cn - j) j)))), hS n u I A J B mk sn L xs X)) : mq 49 0 [some (.ref 1), some (.ref 18), some (.int (nI j)), none, none] [] (hS n u I A J B mk sn L xs X) Q := by
  refine x_const (pc := 0) (pc' := 1) (.int (nI 0)) rfl rfl rfl rfl ?_
  refine x_is1 (pc := 1) (ml' := [some (.ref 1), some (.ref 18), some (.int (nI j)), some (.int (nI 0)), none]) rfl rfl ?_
  refine x_il1 (pc := 2) rfl rfl ?_
  refine x_is2 (pc := 3) (ml' := [some (.ref 1), some (.ref 18), some (.int (nI j)), some (.int (nI 0)), some (.int (nI j))]) rfl rfl ?_
  rw [← Nat.zero_add (mkS D f (cn - j) j)] at kk
  exact l_49_1 h hcn hf hc hsl (cn - j) 0 j (by omega) kk
set_option maxRecDepth 100000 in
set_option maxHeartbeats 4000000 in
theorem l_50b_1 {s c k : Nat} (hs : s < 16) (hW : WS D s c) {Q : mO × mHp → Prop} : ∀ (z a j e : Nat) {I : Nat → Int32} {A : Nat → Nat → Int32}, (DK (A 0) D) → (j + z = c) → (RS I D s j e) → (e < 1000) → (∀ I' A' j', Fr [4, 5, 6, 7, 8, 9, 10, 20, 21, 22] I I' → Fr [10, 11, 12, 13, 14] A A' → mq 50 72 [some (.ref 1), some (.ref 18), some (.int (nI (a + nE D s z j e))), some (.int (nI k)), some (.int (nI j'))] [] (hS n u I' A' J B mk sn L xs X) Q) → mq 50 30 [some (.ref 1), some (.ref 18), some (.int (nI a)), some (.int (nI k)), some (.int (nI j))] [] (hS n u I A J B mk sn L xs X) Q := by
  intro z
  induction z with
  | zero =>
    intro a j e I A h hz hR he kk
    have q8 := WS_8 hW
    have q9 := WS_128 hW
    refine x_il2 (pc := 30) rfl rfl ?_
    refine x_const (pc := 32) (pc' := 35) (.int (nI 128)) rfl rfl rfl rfl ?_
    refine x_cmpN_ge (pc := 35) (t := 72) rfl rfl (by omega) (by omega) (fun c35 => ?_) (fun c35 => ?_)
    · omega
    · refine x_al1 (pc := 38) rfl rfl ?_
      refine g_1_1 (pc := 39) rfl rfl ?_
      refine x_k (pc := 42) rfl rfl rfl ⟨Nat.le_of_ble_eq_true rfl, Nat.le_of_ble_eq_true rfl, Nat.le_of_ble_eq_true rfl⟩ rfl (rs_end (I := I) (A := A) hW (by omega) hR ?_)
      show mq 50 45 [some (.ref 1), some (.ref 18), some (.int (nI a)), some (.int (nI k)), some (.int (nI j))] [.int (nI 0)] (hS n u I A J B mk sn L xs X) _
      refine x_ifN_eq (pc := 45) (t := 72) rfl rfl (by decide) (fun _ => ?_) (fun c => absurd c (by decide))
      exact kk I A j (Fr_refl _ _) (Fr_refl _ _)
  | succ z ih =>
    intro a j e I A h hz hR he kk
    have hj : j < c := by omega
    have q8 := WS_8 hW
    have q9 := WS_128 hW
    refine x_il2 (pc := 30) rfl rfl ?_
    refine x_const (pc := 32) (pc' := 35) (.int (nI 128)) rfl rfl rfl rfl ?_
    refine x_cmpN_ge (pc := 35) (t := 72) rfl rfl (by omega) (by omega) (fun c35 => ?_) (fun c35 => ?_)
    · omega
    · refine x_al1 (pc := 38) rfl rfl ?_
      refine g_1_1 (pc := 39) rfl rfl ?_
      refine x_k (pc := 42) rfl rfl rfl ⟨Nat.le_of_ble_eq_true rfl, Nat.le_of_ble_eq_true rfl, Nat.le_of_ble_eq_true rfl⟩ rfl (rs_step (I := I) (A := A) h hs hW hj hR he (fun I1 A1 f1 g1 hR1 e7 e10 hb => ?_))
      show mq 50 45 [some (.ref 1), some (.ref 18), some (.int (nI a)), some (.int (nI k)), some (.int (nI j))] [.int (nI 1)] (hS n u I1 A1 J B mk sn L xs X) _
      refine x_ifN_eq (pc := 45) (t := 72) rfl rfl (by decide) (fun c => absurd c (by decide)) (fun _ => ?_)
      refine x_il1 (pc := 48) rfl rfl ?_
      refine x_al1 (pc := 49) rfl rfl ?_
      refine g_1_1 (pc := 50) rfl rfl ?_
      refine g_4_8 (pc := 53) (v := nI (if e ≤ pb D s j then 1 else 0)) rfl rfl e10 ?_
      refine x_ifN_eq (pc := 56) (t := 63) rfl rfl (by split <;> omega) (fun c56 => ?_) (fun c56 => ?_)
      · have c56 : ¬ e ≤ pb D s j := fun q => absurd c56 (by rw [if_pos q]; decide)
        refine x_const (pc := 63) (pc' := 64) (.int (nI 0)) rfl rfl rfl rfl ?_
        refine x_iaddN (pc := 64) (c := a + 0) rfl rfl ?_
        refine x_is1 (pc := 65) (ml' := [some (.ref 1), some (.ref 18), some (.int (nI (a + 0))), some (.int (nI k)), some (.int (nI j))]) rfl rfl ?_
        refine x_iincN (pc := 66) (c := 1) (ml' := [some (.ref 1), some (.ref 18), some (.int (nI (a + 0))), some (.int (nI k)), some (.int (nI (j + 1)))]) rfl rfl rfl rfl ?_
        refine x_step (pc := 69) (pc' := 30) rfl rfl rfl rfl ?_
        have ev : a + nE D s (z + 1) j e = a + 0 + nE D s z (j + 1) (eN e (pb D s j)) := by
          show a + ((if e ≤ pb D s j then 1 else 0) + nE D s z (j + 1) (eN e (pb D s j))) = _
          rw [if_neg c56]
          omega
        rw [ev] at kk
        exact ih (a + 0) (j + 1) (eN e (pb D s j)) (I := I1) (A := A1) (by rw [g1 0 (by decide)]; exact h) (by omega) hR1 (eN_lt he (pb_le hW (by omega))) (fun I2 A2 j2 f2 g2 => kk I2 A2 j2 (Fr_cons (Fr_cons (Fr_refl _ _) f1 (by decide)) f2 (by decide)) (Fr_cons (Fr_cons (Fr_refl _ _) g1 (by decide)) g2 (by decide)))
      · have c56 : e ≤ pb D s j := Classical.byContradiction fun q => c56 (if_neg q)
        refine x_const (pc := 59) (pc' := 60) (.int (nI 1)) rfl rfl rfl rfl ?_
        refine x_step (pc := 60) (pc' := 64) rfl rfl rfl rfl ?_
        refine x_iaddN (pc := 64) (c := a + 1) rfl rfl ?_
        refine x_is1 (pc := 65) (ml' := [some (.ref 1), some (.ref 18), some (.int (nI (a + 1))), some (.int (nI k)), some (.int (nI j))]) rfl rfl ?_
        refine x_iincN (pc := 66) (c := 1) (ml' := [some (.ref 1), some (.ref 18), some (.int (nI (a + 1))), some (.int (nI k)), some (.int (nI (j + 1)))]) rfl rfl rfl rfl ?_
        refine x_step (pc := 69) (pc' := 30) rfl rfl rfl rfl ?_
        have ev : a + nE D s (z + 1) j e = a + 1 + nE D s z (j + 1) (eN e (pb D s j)) := by
          show a + ((if e ≤ pb D s j then 1 else 0) + nE D s z (j + 1) (eN e (pb D s j))) = _
          rw [if_pos c56]
          omega
        rw [ev] at kk
        exact ih (a + 1) (j + 1) (eN e (pb D s j)) (I := I1) (A := A1) (by rw [g1 0 (by decide)]; exact h) (by omega) hR1 (eN_lt he (pb_le hW (by omega))) (fun I2 A2 j2 f2 g2 => kk I2 A2 j2 (Fr_cons (Fr_cons (Fr_refl _ _) f1 (by decide)) f2 (by decide)) (Fr_cons (Fr_cons (Fr_refl _ _) g1 (by decide)) g2 (by decide)))
set_option maxRecDepth 100000 in
set_option maxHeartbeats 4000000 in
theorem l_50_1 {cn : Nat} {f bc : Nat → Nat} (hcn : cn ≤ 16) (hf : ∀ k, k < cn → f k < 16 ∧ WS D (f k) (bc (f k))) {Q : mO × mHp → Prop} : ∀ (z a k : Nat) (w4 : Option Value) {I : Nat → Int32} {A : Nat → Nat → Int32}, (DK (A 0) D) → (k + z = cn) → (I 43 = nI cn) → (∀ j, j < cn → A 34 j = nI (f j)) → (∀ I' A', Fr [4, 5, 6, 7, 8, 9, 10, 20, 21, 22] I I' → Fr [10, 11, 12, 13, 14] A A' → Q (.inl (some (.int (nI (a + nL D f bc z k)))), hS n u I' A' J B mk sn L xs X)) → mq 50 4 [some (.ref 1), some (.ref 18), some (.int (nI a)), some (.int (nI k)), w4] [] (hS n u I A J B mk sn L xs X) Q := by
  intro z
  induction z with
  | zero =>
    intro a k w4 I A h hz hc hsl kk
    refine x_il1 (pc := 4) rfl rfl ?_
    refine x_al1 (pc := 5) rfl rfl ?_
    refine g_18_5 (pc := 6) (v := nI cn) rfl rfl hc ?_
    refine x_cmpN_ge (pc := 9) (t := 78) rfl rfl (by omega) (by omega) (fun c9 => ?_) (fun c9 => ?_)
    · refine x_il1 (pc := 78) rfl rfl ?_
      refine x_ret (pc := 79) rfl rfl ?_
      exact kk I A (Fr_refl _ _) (Fr_refl _ _)
    · omega
  | succ z ih =>
    intro a k w4 I A h hz hc hsl kk
    have hk : k < cn := by omega
    refine x_il1 (pc := 4) rfl rfl ?_
    refine x_al1 (pc := 5) rfl rfl ?_
    refine g_18_5 (pc := 6) (v := nI cn) rfl rfl hc ?_
    refine x_cmpN_ge (pc := 9) (t := 78) rfl rfl (by omega) (by omega) (fun c9 => ?_) (fun c9 => ?_)
    · omega
    · refine x_al1 (pc := 12) rfl rfl ?_
      refine g_1_1 (pc := 13) rfl rfl ?_
      refine x_al1 (pc := 16) rfl rfl ?_
      refine g_18_1 (pc := 17) rfl rfl ?_
      refine x_il1 (pc := 20) rfl rfl ?_
      refine al_19 (pc := 21) (q := k) (v := nI (f k)) rfl rfl (by omega) (hsl k hk) ?_
      refine x_const (pc := 22) (pc' := 24) (.int (nI 8)) rfl rfl rfl rfl ?_
      refine x_k (pc := 24) rfl rfl rfl ⟨Nat.le_of_ble_eq_true rfl, Nat.le_of_ble_eq_true rfl, Nat.le_of_ble_eq_true rfl⟩ rfl (rs_open (I := I) (A := A) (j := 0) (c := bc (f k)) h (hf k hk).1 (hf k hk).2 (Nat.zero_le _) (pb_0 D (f k)).symm (fun I1 f1 hR => ?_))
      show mq 50 27 [some (.ref 1), some (.ref 18), some (.int (nI a)), some (.int (nI k)), w4] [] (hS n u I1 A J B mk sn L xs X) _
      refine x_const (pc := 27) (pc' := 28) (.int (nI 0)) rfl rfl rfl rfl ?_
      refine x_is2 (pc := 28) (ml' := [some (.ref 1), some (.ref 18), some (.int (nI a)), some (.int (nI k)), some (.int (nI 0))]) rfl rfl ?_
      refine l_50b_1 (I := I1) (A := A) (s := f k) (c := bc (f k)) (hf k hk).1 (hf k hk).2 (bc (f k)) a 0 8 h (Nat.zero_add _) hR (by decide) (fun I2 A2 j2 f2 g2 => ?_)
      refine x_iincN (pc := 72) (c := 1) (ml' := [some (.ref 1), some (.ref 18), some (.int (nI (a + nE D (f k) (bc (f k)) 0 8))), some (.int (nI (k + 1))), some (.int (nI j2))]) rfl rfl rfl rfl ?_
      refine x_step (pc := 75) (pc' := 4) rfl rfl rfl rfl ?_
      have ev : a + nL D f bc (z + 1) k = a + nE D (f k) (bc (f k)) 0 8 + nL D f bc z (k + 1) := by
        show a + (nE D (f k) (bc (f k)) 0 8 + nL D f bc z (k + 1)) = _
        omega
      rw [ev] at kk
      exact ih (a + nE D (f k) (bc (f k)) 0 8) (k + 1) _ (I := I2) (A := A2) (by rw [g2 0 (by decide)]; exact h) (by omega) ((f2 43 (by decide)).trans ((f1 43 (by decide)).trans hc)) (fun j hj => by rw [g2 34 (by decide)]; exact hsl j hj) (fun I3 A3 f3 g3 => kk I3 A3 (Fr_cons (Fr_cons (Fr_cons (Fr_refl _ _) f1 (by decide)) f2 (by decide)) f3 (by decide)) (Fr_cons (Fr_cons (Fr_refl _ _) g2 (by decide)) g3 (by decide)))
set_option maxRecDepth 100000 in
set_option maxHeartbeats 4000000 in
theorem k_50_1 (h : DK (A 0) D) {cn : Nat} {f bc : Nat → Nat} (hcn : cn ≤ 16) (hf : ∀ k, k < cn → f k < 16 ∧ WS D (f k) (bc (f k))) (hc : I 43 = nI cn) (hsl : ∀ j, j < cn → A 34 j = nI (f j)) {Q : mO × mHp → Prop} (kk : ∀ I' A', Fr [4, 5, 6, 7, 8, 9, 10, 20, 21, 22] I I' → Fr [10, 11, 12, 13, 14] A A' → Q (.inl (some (.int (nI (nL D f bc cn 0)))), hS n u I' A' J B mk sn L xs X)) : mq 50 0 [some (.ref 1), some (.ref 18), none, none, none] [] (hS n u I A J B mk sn L xs X) Q := by
  refine x_const (pc := 0) (pc' := 1) (.int (nI 0)) rfl rfl rfl rfl ?_
  refine x_is1 (pc := 1) (ml' := [some (.ref 1), some (.ref 18), some (.int (nI 0)), none, none]) rfl rfl ?_
  refine x_const (pc := 2) (pc' := 3) (.int (nI 0)) rfl rfl rfl rfl ?_
  refine x_is1 (pc := 3) (ml' := [some (.ref 1), some (.ref 18), some (.int (nI 0)), some (.int (nI 0)), none]) rfl rfl ?_
  rw [← Nat.zero_add (nL D f bc cn 0)] at kk
  exact l_50_1 hcn hf cn 0 0 none h (Nat.zero_add _) hc hsl kk
set_option maxRecDepth 100000 in
set_option maxHeartbeats 4000000 in
theorem k_51_1 {cn : Nat} {f : Nat → Nat} (hcn : cn ≤ 16) (hc : I 43 = nI cn) (hsl : ∀ j, j < cn → A 34 j = nI (f j)) (hp : 0 < cn) {Q : mO × mHp → Prop} (kk : Q (.inl (some (.int (nI (f (cn - 1))))), hS n u I A J B mk sn L xs X)) : mq 51 0 [some (.ref 18)] [] (hS n u I A J B mk sn L xs X) Q := by
  refine x_al1 (pc := 0) rfl rfl ?_
  refine g_18_5 (pc := 1) (v := nI cn) rfl rfl hc ?_
  refine x_ifN_le (pc := 4) (t := 21) rfl rfl (by omega) (fun c4 => ?_) (fun c4 => ?_)
  · omega
  · refine x_al1 (pc := 7) rfl rfl ?_
    refine g_18_1 (pc := 8) rfl rfl ?_
    refine x_al1 (pc := 11) rfl rfl ?_
    refine g_18_5 (pc := 12) (v := nI cn) rfl rfl hc ?_
    refine x_const (pc := 15) (pc' := 16) (.int (nI 1)) rfl rfl rfl rfl ?_
    refine x_isubN (pc := 16) rfl (hp) ?_
    refine al_19 (pc := 17) (q := cn - 1) (v := nI (f (cn - 1))) rfl rfl (by omega) (hsl _ (by omega)) ?_
    refine x_step (pc := 18) (pc' := 22) rfl rfl rfl rfl ?_
    refine x_ret (pc := 22) rfl rfl ?_
    exact kk
set_option maxRecDepth 100000 in
set_option maxHeartbeats 4000000 in
theorem k_47_1 (h : DK (A 0) D) {cn : Nat} {f bc : Nat → Nat} {a b w : Int32} (hcn : cn ≤ 16) (hf : ∀ k, k < cn → f k < 16 ∧ WS D (f k) (bc (f k))) (hc : I 43 = nI cn) (hsl : ∀ j, j < cn → A 34 j = nI (f j)) (ha : I 44 = a) (hb : I 45 = b) {Q : mO × mHp → Prop} (kk : ∀ I' A', Fr [4, 5, 6, 7, 8, 9, 10, 20, 21, 22] I I' → Fr [10, 11, 12, 13, 14] A A' → Q (.inl (some (.int (lgv D f bc a b cn w))), hS n u I' A' J B mk sn L xs X)) : mq 47 0 [some (.ref 1), some (.int (nI 1)), some (.int w), none] [] (hS n u I A J B mk sn L xs X) Q := by
  refine x_il1 (pc := 0) rfl rfl ?_
  refine x_k (pc := 1) rfl rfl rfl ⟨Nat.le_of_ble_eq_true rfl, Nat.le_of_ble_eq_true rfl, Nat.le_of_ble_eq_true rfl⟩ rfl (k_48 (I := I) (A := A) (by decide) ?_)
  show mq 47 4 [some (.ref 1), some (.int (nI 1)), some (.int w), none] [.int (nI 1)] (hS n u I A J B mk sn L xs X) _
  refine x_ifN_ne (pc := 4) (t := 9) rfl rfl (by decide) (fun _ => ?_) (fun c => absurd c (by decide))
  refine x_al1 (pc := 9) rfl rfl ?_
  refine g_1_2 (pc := 10) rfl rfl ?_
  refine x_il1 (pc := 13) rfl rfl ?_
  refine aal (pc := 14) (q := 1) (a := 18) rfl rfl (by decide) rfl ?_
  refine x_as1 (pc := 15) (ml' := [some (.ref 1), some (.int (nI 1)), some (.int w), some (.ref 18)]) rfl rfl ?_
  refine x_il1 (pc := 16) rfl rfl ?_
  rcases pk_ix w (n := 6) (by decide) with c17 | c17 | ⟨j17, c17, e17⟩
  · refine x_tabd (pc := 17) (t := 107) rfl rfl (Or.inl (tab_lt c17)) ?_
    refine x_const (pc := 107) (pc' := 108) (.int (-1)) rfl rfl rfl rfl ?_
    refine x_ret (pc := 108) rfl rfl ?_
    have ev : lgv D f bc a b cn w = -1 := lkv_b (by first | exact Or.inl c17 | exact Or.inr c17)
    rw [ev] at kk
    exact kk I A (Fr_refl _ _) (Fr_refl _ _)
  · refine x_tabd (pc := 17) (t := 107) rfl rfl (Or.inr (tab_ge (n := 5) (by decide) c17)) ?_
    refine x_const (pc := 107) (pc' := 108) (.int (-1)) rfl rfl rfl rfl ?_
    refine x_ret (pc := 108) rfl rfl ?_
    have ev : lgv D f bc a b cn w = -1 := lkv_b (by first | exact Or.inl c17 | exact Or.inr c17)
    rw [ev] at kk
    exact kk I A (Fr_refl _ _) (Fr_refl _ _)
  · match j17, c17, e17 with
    | 0, _, e17 =>
      refine x_tabi (pc := 17) (i := 0) (t := 56) rfl rfl e17 ?_
      refine x_al1 (pc := 56) rfl rfl ?_
      refine g_18_6 (pc := 57) (v := a) rfl rfl ha ?_
      refine x_ret (pc := 60) rfl rfl ?_
      subst e17
      have ev : lgv D f bc a b cn (nI 0) = a := lkv_0
      rw [ev] at kk
      exact kk _ _ (Fr_refl _ _) (Fr_refl _ _)
    | 1, _, e17 =>
      refine x_tabi (pc := 17) (i := 1) (t := 61) rfl rfl e17 ?_
      refine x_al1 (pc := 61) rfl rfl ?_
      refine g_18_7 (pc := 62) (v := b) rfl rfl hb ?_
      refine x_ret (pc := 65) rfl rfl ?_
      subst e17
      have ev : lgv D f bc a b cn (nI 1) = b := lkv_1
      rw [ev] at kk
      exact kk _ _ (Fr_refl _ _) (Fr_refl _ _)
    | 2, _, e17 =>
      refine x_tabi (pc := 17) (i := 2) (t := 66) rfl rfl e17 ?_
      refine x_al1 (pc := 66) rfl rfl ?_
      refine g_18_5 (pc := 67) (v := nI cn) rfl rfl hc ?_
      refine x_ret (pc := 70) rfl rfl ?_
      subst e17
      have ev : lgv D f bc a b cn (nI 2) = nI cn := lkv_2
      rw [ev] at kk
      exact kk _ _ (Fr_refl _ _) (Fr_refl _ _)
    | 3, _, e17 =>
      refine x_tabi (pc := 17) (i := 3) (t := 71) rfl rfl e17 ?_
      refine x_al1 (pc := 71) rfl rfl ?_
      refine x_al1 (pc := 72) rfl rfl ?_
      refine x_const (pc := 73) (pc' := 74) (.int (nI 0)) rfl rfl rfl rfl ?_
      refine x_k (pc := 74) rfl rfl rfl ⟨Nat.le_of_ble_eq_true rfl, Nat.le_of_ble_eq_true rfl, Nat.le_of_ble_eq_true rfl⟩ rfl (k_49_1 (I := I) (A := A) (j := 0) h (Nat.zero_le _) hcn hf hc hsl ?_)
      show mq 47 77 [some (.ref 1), some (.int (nI 1)), some (.int w), some (.ref 18)] [.int (nI (mkS D f (cn - 0) 0))] (hS n u I A J B mk sn L xs X) _
      refine x_ret (pc := 77) rfl rfl ?_
      subst e17
      have ev : lgv D f bc a b cn (nI 3) = nI (mkS D f cn 0) := lkv_3
      rw [ev] at kk
      rw [Nat.sub_zero]
      exact kk I A (Fr_refl _ _) (Fr_refl _ _)
    | 4, _, e17 =>
      refine x_tabi (pc := 17) (i := 4) (t := 78) rfl rfl e17 ?_
      refine x_al1 (pc := 78) rfl rfl ?_
      refine x_al1 (pc := 79) rfl rfl ?_
      refine x_k (pc := 80) rfl rfl rfl ⟨Nat.le_of_ble_eq_true rfl, Nat.le_of_ble_eq_true rfl, Nat.le_of_ble_eq_true rfl⟩ rfl (k_50_1 (I := I) (A := A) h hcn hf hc hsl (fun I1 A1 f1 g1 => ?_))
      show mq 47 83 [some (.ref 1), some (.int (nI 1)), some (.int w), some (.ref 18)] [.int (nI (nL D f bc cn 0))] (hS n u I1 A1 J B mk sn L xs X) _
      refine x_ret (pc := 83) rfl rfl ?_
      subst e17
      have ev : lgv D f bc a b cn (nI 4) = nI (nL D f bc cn 0) := lkv_4
      rw [ev] at kk
      exact kk _ _ (Fr_cons (Fr_refl _ _) f1 (by decide)) (Fr_cons (Fr_refl _ _) g1 (by decide))
    | 5, _, e17 =>
      refine x_tabi (pc := 17) (i := 5) (t := 84) rfl rfl e17 ?_
      refine x_al1 (pc := 84) rfl rfl ?_
      refine g_18_5 (pc := 85) (v := nI cn) rfl rfl hc ?_
      refine x_ifN_ne (pc := 88) (t := 95) rfl rfl (by omega) (fun c88 => ?_) (fun c88 => ?_)
      · refine x_al1 (pc := 95) rfl rfl ?_
        refine g_1_0 (pc := 96) rfl rfl ?_
        refine x_al1 (pc := 99) rfl rfl ?_
        refine x_k (pc := 100) rfl rfl rfl ⟨Nat.le_of_ble_eq_true rfl, Nat.le_of_ble_eq_true rfl, Nat.le_of_ble_eq_true rfl⟩ rfl (k_51_1 (I := I) (A := A) hcn hc hsl (by omega) ?_)
        show mq 47 103 [some (.ref 1), some (.int (nI 1)), some (.int w), some (.ref 18)] [.int (nI (f (cn - 1))), .ref 2] (hS n u I A J B mk sn L xs X) _
        refine x_k (pc := 103) rfl rfl rfl ⟨Nat.le_of_ble_eq_true rfl, Nat.le_of_ble_eq_true rfl, Nat.le_of_ble_eq_true rfl⟩ rfl (mq_k (c_22 h (hf _ (by omega)).1) ?_)
        show mq 47 106 [some (.ref 1), some (.int (nI 1)), some (.int w), some (.ref 18)] [.int (nI (bB D (f (cn - 1))))] (hS n u I A J B mk sn L xs X) _
        refine x_ret (pc := 106) rfl rfl ?_
        subst e17
        have ev : lgv D f bc a b cn (nI 5) = (if cn = 0 then -1 else nI (bB D (f (cn - 1)))) := lkv_5
        rw [ev] at kk
        rw [if_neg c88] at kk
        exact kk I A (Fr_refl _ _) (Fr_refl _ _)
      · refine x_const (pc := 91) (pc' := 92) (.int (-1)) rfl rfl rfl rfl ?_
        refine x_step (pc := 92) (pc' := 106) rfl rfl rfl rfl ?_
        refine x_ret (pc := 106) rfl rfl ?_
        subst e17
        have ev : lgv D f bc a b cn (nI 5) = (if cn = 0 then -1 else nI (bB D (f (cn - 1)))) := lkv_5
        rw [ev] at kk
        rw [if_pos c88] at kk
        exact kk I A (Fr_refl _ _) (Fr_refl _ _)
set_option maxRecDepth 100000 in
set_option maxHeartbeats 4000000 in
theorem l_49_2 (h : DK (A 0) D) {cn : Nat} {f bc : Nat → Nat} {w2 : Int32} (hcn : cn ≤ 16) (hf : ∀ k, k < cn → f k < 16 ∧ WS D (f k) (bc (f k))) (hc : I 46 = nI cn) (hsl : ∀ j, j < cn → A 38 j = nI (f j)) {Q : mO × mHp → Prop} : ∀ (z a k : Nat) , (k + z = cn ∨ (z = 0 ∧ cn ≤ k ∧ k ≤ 16)) → (Q (.inl (some (.int (nI (a + mkS D f z k)))), hS n u I A J B mk sn L xs X)) → mq 49 5 [some (.ref 1), some (.ref 23), some (.int w2), some (.int (nI a)), some (.int (nI k))] [] (hS n u I A J B mk sn L xs X) Q := by
  intro z
  induction z with
  | zero =>
    intro a k  hz kk
    refine x_il2 (pc := 5) rfl rfl ?_
    refine x_al1 (pc := 7) rfl rfl ?_
    refine g_23_5 (pc := 8) (v := nI cn) rfl rfl hc ?_
    refine x_cmpN_ge (pc := 11) (t := 37) rfl rfl (by omega) (by omega) (fun c11 => ?_) (fun c11 => ?_)
    · refine x_il1 (pc := 37) rfl rfl ?_
      refine x_ret (pc := 38) rfl rfl ?_
      exact kk
    · omega
  | succ z ih =>
    intro a k  hz kk
    refine x_il2 (pc := 5) rfl rfl ?_
    refine x_al1 (pc := 7) rfl rfl ?_
    refine g_23_5 (pc := 8) (v := nI cn) rfl rfl hc ?_
    refine x_cmpN_ge (pc := 11) (t := 37) rfl rfl (by omega) (by omega) (fun c11 => ?_) (fun c11 => ?_)
    · omega
    · refine x_il1 (pc := 14) rfl rfl ?_
      refine x_al1 (pc := 15) rfl rfl ?_
      refine g_1_0 (pc := 16) rfl rfl ?_
      refine x_al1 (pc := 19) rfl rfl ?_
      refine g_23_1 (pc := 20) rfl rfl ?_
      refine x_il2 (pc := 23) rfl rfl ?_
      refine al_24 (pc := 25) (q := k) (v := nI (f k)) rfl rfl (by omega) (hsl k (by omega)) ?_
      refine x_k (pc := 26) rfl rfl rfl ⟨Nat.le_of_ble_eq_true rfl, Nat.le_of_ble_eq_true rfl, Nat.le_of_ble_eq_true rfl⟩ rfl (mq_k (c_37 h (hf k (by omega)).1) ?_)
      show mq 49 29 [some (.ref 1), some (.ref 23), some (.int w2), some (.int (nI a)), some (.int (nI k))] [.int (nI (mB D (f k))), .int (nI a)] (hS n u I A J B mk sn L xs X) _
      refine x_iaddN (pc := 29) (c := a + (mB D (f k))) rfl rfl ?_
      refine x_is1 (pc := 30) (ml' := [some (.ref 1), some (.ref 23), some (.int w2), some (.int (nI (a + (mB D (f k))))), some (.int (nI k))]) rfl rfl ?_
      refine x_iincN (pc := 31) (c := 1) (ml' := [some (.ref 1), some (.ref 23), some (.int w2), some (.int (nI (a + (mB D (f k))))), some (.int (nI (k + 1)))]) rfl rfl rfl rfl ?_
      refine x_step (pc := 34) (pc' := 5) rfl rfl rfl rfl ?_
      have ev : a + mkS D f (z + 1) k = a + mB D (f k) + mkS D f z (k + 1) := by
        show a + (mB D (f k) + mkS D f z (k + 1)) = _
        omega
      rw [ev] at kk
      exact ih (a + mB D (f k)) (k + 1) (by omega) kk
set_option maxRecDepth 100000 in
set_option maxHeartbeats 4000000 in
theorem k_49_2 (h : DK (A 0) D) {cn j : Nat} {f bc : Nat → Nat} (hj : j ≤ 1) (hcn : cn ≤ 16) (hf : ∀ k, k < cn → f k < 16 ∧ WS D (f k) (bc (f k))) (hc : I 46 = nI cn) (hsl : ∀ j, j < cn → A 38 j = nI (f j)) {Q : mO × mHp → Prop} (kk : Q (.inl (some (.int (nI (mkS D f (cn - j) j)))), hS n u I A J B mk sn L xs X)) : mq 49 0 [some (.ref 1), some (.ref 23), some (.int (nI j)), none, none] [] (hS n u I A J B mk sn L xs X) Q := by
  refine x_const (pc := 0) (pc' := 1) (.int (nI 0)) rfl rfl rfl rfl ?_
  refine x_is1 (pc := 1) (ml' := [some (.ref 1), some (.ref 23), some (.int (nI j)), some (.int (nI 0)), none]) rfl rfl ?_
  refine x_il1 (pc := 2) rfl rfl ?_
  refine x_is2 (pc := 3) (ml' := [some (.ref 1), some (.ref 23), some (.int (nI j)), some (.int (nI 0)), some (.int (nI j))]) rfl rfl ?_
  rw [← Nat.zero_add (mkS D f (cn - j) j)] at kk
  exact l_49_2 h hcn hf hc hsl (cn - j) 0 j (by omega) kk
set_option maxRecDepth 100000 in
set_option maxHeartbeats 4000000 in
theorem l_50b_2 {s c k : Nat} (hs : s < 16) (hW : WS D s c) {Q : mO × mHp → Prop} : ∀ (z a j e : Nat) {I : Nat → Int32} {A : Nat → Nat → Int32}, (DK (A 0) D) → (j + z = c) → (RS I D s j e) → (e < 1000) → (∀ I' A' j', Fr [4, 5, 6, 7, 8, 9, 10, 20, 21, 22] I I' → Fr [10, 11, 12, 13, 14] A A' → mq 50 72 [some (.ref 1), some (.ref 23), some (.int (nI (a + nE D s z j e))), some (.int (nI k)), some (.int (nI j'))] [] (hS n u I' A' J B mk sn L xs X) Q) → mq 50 30 [some (.ref 1), some (.ref 23), some (.int (nI a)), some (.int (nI k)), some (.int (nI j))] [] (hS n u I A J B mk sn L xs X) Q := by
  intro z
  induction z with
  | zero =>
    intro a j e I A h hz hR he kk
    have q8 := WS_8 hW
    have q9 := WS_128 hW
    refine x_il2 (pc := 30) rfl rfl ?_
    refine x_const (pc := 32) (pc' := 35) (.int (nI 128)) rfl rfl rfl rfl ?_
    refine x_cmpN_ge (pc := 35) (t := 72) rfl rfl (by omega) (by omega) (fun c35 => ?_) (fun c35 => ?_)
    · omega
    · refine x_al1 (pc := 38) rfl rfl ?_
      refine g_1_1 (pc := 39) rfl rfl ?_
      refine x_k (pc := 42) rfl rfl rfl ⟨Nat.le_of_ble_eq_true rfl, Nat.le_of_ble_eq_true rfl, Nat.le_of_ble_eq_true rfl⟩ rfl (rs_end (I := I) (A := A) hW (by omega) hR ?_)
      show mq 50 45 [some (.ref 1), some (.ref 23), some (.int (nI a)), some (.int (nI k)), some (.int (nI j))] [.int (nI 0)] (hS n u I A J B mk sn L xs X) _
      refine x_ifN_eq (pc := 45) (t := 72) rfl rfl (by decide) (fun _ => ?_) (fun c => absurd c (by decide))
      exact kk I A j (Fr_refl _ _) (Fr_refl _ _)
  | succ z ih =>
    intro a j e I A h hz hR he kk
    have hj : j < c := by omega
    have q8 := WS_8 hW
    have q9 := WS_128 hW
    refine x_il2 (pc := 30) rfl rfl ?_
    refine x_const (pc := 32) (pc' := 35) (.int (nI 128)) rfl rfl rfl rfl ?_
    refine x_cmpN_ge (pc := 35) (t := 72) rfl rfl (by omega) (by omega) (fun c35 => ?_) (fun c35 => ?_)
    · omega
    · refine x_al1 (pc := 38) rfl rfl ?_
      refine g_1_1 (pc := 39) rfl rfl ?_
      refine x_k (pc := 42) rfl rfl rfl ⟨Nat.le_of_ble_eq_true rfl, Nat.le_of_ble_eq_true rfl, Nat.le_of_ble_eq_true rfl⟩ rfl (rs_step (I := I) (A := A) h hs hW hj hR he (fun I1 A1 f1 g1 hR1 e7 e10 hb => ?_))
      show mq 50 45 [some (.ref 1), some (.ref 23), some (.int (nI a)), some (.int (nI k)), some (.int (nI j))] [.int (nI 1)] (hS n u I1 A1 J B mk sn L xs X) _
      refine x_ifN_eq (pc := 45) (t := 72) rfl rfl (by decide) (fun c => absurd c (by decide)) (fun _ => ?_)
      refine x_il1 (pc := 48) rfl rfl ?_
      refine x_al1 (pc := 49) rfl rfl ?_
      refine g_1_1 (pc := 50) rfl rfl ?_
      refine g_4_8 (pc := 53) (v := nI (if e ≤ pb D s j then 1 else 0)) rfl rfl e10 ?_
      refine x_ifN_eq (pc := 56) (t := 63) rfl rfl (by split <;> omega) (fun c56 => ?_) (fun c56 => ?_)
      · have c56 : ¬ e ≤ pb D s j := fun q => absurd c56 (by rw [if_pos q]; decide)
        refine x_const (pc := 63) (pc' := 64) (.int (nI 0)) rfl rfl rfl rfl ?_
        refine x_iaddN (pc := 64) (c := a + 0) rfl rfl ?_
        refine x_is1 (pc := 65) (ml' := [some (.ref 1), some (.ref 23), some (.int (nI (a + 0))), some (.int (nI k)), some (.int (nI j))]) rfl rfl ?_
        refine x_iincN (pc := 66) (c := 1) (ml' := [some (.ref 1), some (.ref 23), some (.int (nI (a + 0))), some (.int (nI k)), some (.int (nI (j + 1)))]) rfl rfl rfl rfl ?_
        refine x_step (pc := 69) (pc' := 30) rfl rfl rfl rfl ?_
        have ev : a + nE D s (z + 1) j e = a + 0 + nE D s z (j + 1) (eN e (pb D s j)) := by
          show a + ((if e ≤ pb D s j then 1 else 0) + nE D s z (j + 1) (eN e (pb D s j))) = _
          rw [if_neg c56]
          omega
        rw [ev] at kk
        exact ih (a + 0) (j + 1) (eN e (pb D s j)) (I := I1) (A := A1) (by rw [g1 0 (by decide)]; exact h) (by omega) hR1 (eN_lt he (pb_le hW (by omega))) (fun I2 A2 j2 f2 g2 => kk I2 A2 j2 (Fr_cons (Fr_cons (Fr_refl _ _) f1 (by decide)) f2 (by decide)) (Fr_cons (Fr_cons (Fr_refl _ _) g1 (by decide)) g2 (by decide)))
      · have c56 : e ≤ pb D s j := Classical.byContradiction fun q => c56 (if_neg q)
        refine x_const (pc := 59) (pc' := 60) (.int (nI 1)) rfl rfl rfl rfl ?_
        refine x_step (pc := 60) (pc' := 64) rfl rfl rfl rfl ?_
        refine x_iaddN (pc := 64) (c := a + 1) rfl rfl ?_
        refine x_is1 (pc := 65) (ml' := [some (.ref 1), some (.ref 23), some (.int (nI (a + 1))), some (.int (nI k)), some (.int (nI j))]) rfl rfl ?_
        refine x_iincN (pc := 66) (c := 1) (ml' := [some (.ref 1), some (.ref 23), some (.int (nI (a + 1))), some (.int (nI k)), some (.int (nI (j + 1)))]) rfl rfl rfl rfl ?_
        refine x_step (pc := 69) (pc' := 30) rfl rfl rfl rfl ?_
        have ev : a + nE D s (z + 1) j e = a + 1 + nE D s z (j + 1) (eN e (pb D s j)) := by
          show a + ((if e ≤ pb D s j then 1 else 0) + nE D s z (j + 1) (eN e (pb D s j))) = _
          rw [if_pos c56]
          omega
        rw [ev] at kk
        exact ih (a + 1) (j + 1) (eN e (pb D s j)) (I := I1) (A := A1) (by rw [g1 0 (by decide)]; exact h) (by omega) hR1 (eN_lt he (pb_le hW (by omega))) (fun I2 A2 j2 f2 g2 => kk I2 A2 j2 (Fr_cons (Fr_cons (Fr_refl _ _) f1 (by decide)) f2 (by decide)) (Fr_cons (Fr_cons (Fr_refl _ _) g1 (by decide)) g2 (by decide)))
set_option maxRecDepth 100000 in
set_option maxHeartbeats 4000000 in
theorem l_50_2 {cn : Nat} {f bc : Nat → Nat} (hcn : cn ≤ 16) (hf : ∀ k, k < cn → f k < 16 ∧ WS D (f k) (bc (f k))) {Q : mO × mHp → Prop} : ∀ (z a k : Nat) (w4 : Option Value) {I : Nat → Int32} {A : Nat → Nat → Int32}, (DK (A 0) D) → (k + z = cn) → (I 46 = nI cn) → (∀ j, j < cn → A 38 j = nI (f j)) → (∀ I' A', Fr [4, 5, 6, 7, 8, 9, 10, 20, 21, 22] I I' → Fr [10, 11, 12, 13, 14] A A' → Q (.inl (some (.int (nI (a + nL D f bc z k)))), hS n u I' A' J B mk sn L xs X)) → mq 50 4 [some (.ref 1), some (.ref 23), some (.int (nI a)), some (.int (nI k)), w4] [] (hS n u I A J B mk sn L xs X) Q := by
  intro z
  induction z with
  | zero =>
    intro a k w4 I A h hz hc hsl kk
    refine x_il1 (pc := 4) rfl rfl ?_
    refine x_al1 (pc := 5) rfl rfl ?_
    refine g_23_5 (pc := 6) (v := nI cn) rfl rfl hc ?_
    refine x_cmpN_ge (pc := 9) (t := 78) rfl rfl (by omega) (by omega) (fun c9 => ?_) (fun c9 => ?_)
    · refine x_il1 (pc := 78) rfl rfl ?_
      refine x_ret (pc := 79) rfl rfl ?_
      exact kk I A (Fr_refl _ _) (Fr_refl _ _)
    · omega
  | succ z ih =>
    intro a k w4 I A h hz hc hsl kk
    have hk : k < cn := by omega
    refine x_il1 (pc := 4) rfl rfl ?_
    refine x_al1 (pc := 5) rfl rfl ?_
    refine g_23_5 (pc := 6) (v := nI cn) rfl rfl hc ?_
    refine x_cmpN_ge (pc := 9) (t := 78) rfl rfl (by omega) (by omega) (fun c9 => ?_) (fun c9 => ?_)
    · omega
    · refine x_al1 (pc := 12) rfl rfl ?_
      refine g_1_1 (pc := 13) rfl rfl ?_
      refine x_al1 (pc := 16) rfl rfl ?_
      refine g_23_1 (pc := 17) rfl rfl ?_
      refine x_il1 (pc := 20) rfl rfl ?_
      refine al_24 (pc := 21) (q := k) (v := nI (f k)) rfl rfl (by omega) (hsl k hk) ?_
      refine x_const (pc := 22) (pc' := 24) (.int (nI 8)) rfl rfl rfl rfl ?_
      refine x_k (pc := 24) rfl rfl rfl ⟨Nat.le_of_ble_eq_true rfl, Nat.le_of_ble_eq_true rfl, Nat.le_of_ble_eq_true rfl⟩ rfl (rs_open (I := I) (A := A) (j := 0) (c := bc (f k)) h (hf k hk).1 (hf k hk).2 (Nat.zero_le _) (pb_0 D (f k)).symm (fun I1 f1 hR => ?_))
      show mq 50 27 [some (.ref 1), some (.ref 23), some (.int (nI a)), some (.int (nI k)), w4] [] (hS n u I1 A J B mk sn L xs X) _
      refine x_const (pc := 27) (pc' := 28) (.int (nI 0)) rfl rfl rfl rfl ?_
      refine x_is2 (pc := 28) (ml' := [some (.ref 1), some (.ref 23), some (.int (nI a)), some (.int (nI k)), some (.int (nI 0))]) rfl rfl ?_
      refine l_50b_2 (I := I1) (A := A) (s := f k) (c := bc (f k)) (hf k hk).1 (hf k hk).2 (bc (f k)) a 0 8 h (Nat.zero_add _) hR (by decide) (fun I2 A2 j2 f2 g2 => ?_)
      refine x_iincN (pc := 72) (c := 1) (ml' := [some (.ref 1), some (.ref 23), some (.int (nI (a + nE D (f k) (bc (f k)) 0 8))), some (.int (nI (k + 1))), some (.int (nI j2))]) rfl rfl rfl rfl ?_
      refine x_step (pc := 75) (pc' := 4) rfl rfl rfl rfl ?_
      have ev : a + nL D f bc (z + 1) k = a + nE D (f k) (bc (f k)) 0 8 + nL D f bc z (k + 1) := by
        show a + (nE D (f k) (bc (f k)) 0 8 + nL D f bc z (k + 1)) = _
        omega
      rw [ev] at kk
      exact ih (a + nE D (f k) (bc (f k)) 0 8) (k + 1) _ (I := I2) (A := A2) (by rw [g2 0 (by decide)]; exact h) (by omega) ((f2 46 (by decide)).trans ((f1 46 (by decide)).trans hc)) (fun j hj => by rw [g2 38 (by decide)]; exact hsl j hj) (fun I3 A3 f3 g3 => kk I3 A3 (Fr_cons (Fr_cons (Fr_cons (Fr_refl _ _) f1 (by decide)) f2 (by decide)) f3 (by decide)) (Fr_cons (Fr_cons (Fr_refl _ _) g2 (by decide)) g3 (by decide)))
set_option maxRecDepth 100000 in
set_option maxHeartbeats 4000000 in
theorem k_50_2 (h : DK (A 0) D) {cn : Nat} {f bc : Nat → Nat} (hcn : cn ≤ 16) (hf : ∀ k, k < cn → f k < 16 ∧ WS D (f k) (bc (f k))) (hc : I 46 = nI cn) (hsl : ∀ j, j < cn → A 38 j = nI (f j)) {Q : mO × mHp → Prop} (kk : ∀ I' A', Fr [4, 5, 6, 7, 8, 9, 10, 20, 21, 22] I I' → Fr [10, 11, 12, 13, 14] A A' → Q (.inl (some (.int (nI (nL D f bc cn 0)))), hS n u I' A' J B mk sn L xs X)) : mq 50 0 [some (.ref 1), some (.ref 23), none, none, none] [] (hS n u I A J B mk sn L xs X) Q := by
  refine x_const (pc := 0) (pc' := 1) (.int (nI 0)) rfl rfl rfl rfl ?_
  refine x_is1 (pc := 1) (ml' := [some (.ref 1), some (.ref 23), some (.int (nI 0)), none, none]) rfl rfl ?_
  refine x_const (pc := 2) (pc' := 3) (.int (nI 0)) rfl rfl rfl rfl ?_
  refine x_is1 (pc := 3) (ml' := [some (.ref 1), some (.ref 23), some (.int (nI 0)), some (.int (nI 0)), none]) rfl rfl ?_
  rw [← Nat.zero_add (nL D f bc cn 0)] at kk
  exact l_50_2 hcn hf cn 0 0 none h (Nat.zero_add _) hc hsl kk
set_option maxRecDepth 100000 in
set_option maxHeartbeats 4000000 in
theorem k_51_2 {cn : Nat} {f : Nat → Nat} (hcn : cn ≤ 16) (hc : I 46 = nI cn) (hsl : ∀ j, j < cn → A 38 j = nI (f j)) (hp : 0 < cn) {Q : mO × mHp → Prop} (kk : Q (.inl (some (.int (nI (f (cn - 1))))), hS n u I A J B mk sn L xs X)) : mq 51 0 [some (.ref 23)] [] (hS n u I A J B mk sn L xs X) Q := by
  refine x_al1 (pc := 0) rfl rfl ?_
  refine g_23_5 (pc := 1) (v := nI cn) rfl rfl hc ?_
  refine x_ifN_le (pc := 4) (t := 21) rfl rfl (by omega) (fun c4 => ?_) (fun c4 => ?_)
  · omega
  · refine x_al1 (pc := 7) rfl rfl ?_
    refine g_23_1 (pc := 8) rfl rfl ?_
    refine x_al1 (pc := 11) rfl rfl ?_
    refine g_23_5 (pc := 12) (v := nI cn) rfl rfl hc ?_
    refine x_const (pc := 15) (pc' := 16) (.int (nI 1)) rfl rfl rfl rfl ?_
    refine x_isubN (pc := 16) rfl (hp) ?_
    refine al_24 (pc := 17) (q := cn - 1) (v := nI (f (cn - 1))) rfl rfl (by omega) (hsl _ (by omega)) ?_
    refine x_step (pc := 18) (pc' := 22) rfl rfl rfl rfl ?_
    refine x_ret (pc := 22) rfl rfl ?_
    exact kk
set_option maxRecDepth 100000 in
set_option maxHeartbeats 4000000 in
theorem k_47_2 (h : DK (A 0) D) {cn : Nat} {f bc : Nat → Nat} {a b w : Int32} (hcn : cn ≤ 16) (hf : ∀ k, k < cn → f k < 16 ∧ WS D (f k) (bc (f k))) (hc : I 46 = nI cn) (hsl : ∀ j, j < cn → A 38 j = nI (f j)) (ha : I 47 = a) (hb : I 48 = b) {Q : mO × mHp → Prop} (kk : ∀ I' A', Fr [4, 5, 6, 7, 8, 9, 10, 20, 21, 22] I I' → Fr [10, 11, 12, 13, 14] A A' → Q (.inl (some (.int (lgv D f bc a b cn w))), hS n u I' A' J B mk sn L xs X)) : mq 47 0 [some (.ref 1), some (.int (nI 2)), some (.int w), none] [] (hS n u I A J B mk sn L xs X) Q := by
  refine x_il1 (pc := 0) rfl rfl ?_
  refine x_k (pc := 1) rfl rfl rfl ⟨Nat.le_of_ble_eq_true rfl, Nat.le_of_ble_eq_true rfl, Nat.le_of_ble_eq_true rfl⟩ rfl (k_48 (I := I) (A := A) (by decide) ?_)
  show mq 47 4 [some (.ref 1), some (.int (nI 2)), some (.int w), none] [.int (nI 1)] (hS n u I A J B mk sn L xs X) _
  refine x_ifN_ne (pc := 4) (t := 9) rfl rfl (by decide) (fun _ => ?_) (fun c => absurd c (by decide))
  refine x_al1 (pc := 9) rfl rfl ?_
  refine g_1_2 (pc := 10) rfl rfl ?_
  refine x_il1 (pc := 13) rfl rfl ?_
  refine aal (pc := 14) (q := 2) (a := 23) rfl rfl (by decide) rfl ?_
  refine x_as1 (pc := 15) (ml' := [some (.ref 1), some (.int (nI 2)), some (.int w), some (.ref 23)]) rfl rfl ?_
  refine x_il1 (pc := 16) rfl rfl ?_
  rcases pk_ix w (n := 6) (by decide) with c17 | c17 | ⟨j17, c17, e17⟩
  · refine x_tabd (pc := 17) (t := 107) rfl rfl (Or.inl (tab_lt c17)) ?_
    refine x_const (pc := 107) (pc' := 108) (.int (-1)) rfl rfl rfl rfl ?_
    refine x_ret (pc := 108) rfl rfl ?_
    have ev : lgv D f bc a b cn w = -1 := lkv_b (by first | exact Or.inl c17 | exact Or.inr c17)
    rw [ev] at kk
    exact kk I A (Fr_refl _ _) (Fr_refl _ _)
  · refine x_tabd (pc := 17) (t := 107) rfl rfl (Or.inr (tab_ge (n := 5) (by decide) c17)) ?_
    refine x_const (pc := 107) (pc' := 108) (.int (-1)) rfl rfl rfl rfl ?_
    refine x_ret (pc := 108) rfl rfl ?_
    have ev : lgv D f bc a b cn w = -1 := lkv_b (by first | exact Or.inl c17 | exact Or.inr c17)
    rw [ev] at kk
    exact kk I A (Fr_refl _ _) (Fr_refl _ _)
  · match j17, c17, e17 with
    | 0, _, e17 =>
      refine x_tabi (pc := 17) (i := 0) (t := 56) rfl rfl e17 ?_
      refine x_al1 (pc := 56) rfl rfl ?_
      refine g_23_6 (pc := 57) (v := a) rfl rfl ha ?_
      refine x_ret (pc := 60) rfl rfl ?_
      subst e17
      have ev : lgv D f bc a b cn (nI 0) = a := lkv_0
      rw [ev] at kk
      exact kk _ _ (Fr_refl _ _) (Fr_refl _ _)
    | 1, _, e17 =>
      refine x_tabi (pc := 17) (i := 1) (t := 61) rfl rfl e17 ?_
      refine x_al1 (pc := 61) rfl rfl ?_
      refine g_23_7 (pc := 62) (v := b) rfl rfl hb ?_
      refine x_ret (pc := 65) rfl rfl ?_
      subst e17
      have ev : lgv D f bc a b cn (nI 1) = b := lkv_1
      rw [ev] at kk
      exact kk _ _ (Fr_refl _ _) (Fr_refl _ _)
    | 2, _, e17 =>
      refine x_tabi (pc := 17) (i := 2) (t := 66) rfl rfl e17 ?_
      refine x_al1 (pc := 66) rfl rfl ?_
      refine g_23_5 (pc := 67) (v := nI cn) rfl rfl hc ?_
      refine x_ret (pc := 70) rfl rfl ?_
      subst e17
      have ev : lgv D f bc a b cn (nI 2) = nI cn := lkv_2
      rw [ev] at kk
      exact kk _ _ (Fr_refl _ _) (Fr_refl _ _)
    | 3, _, e17 =>
      refine x_tabi (pc := 17) (i := 3) (t := 71) rfl rfl e17 ?_
      refine x_al1 (pc := 71) rfl rfl ?_
      refine x_al1 (pc := 72) rfl rfl ?_
      refine x_const (pc := 73) (pc' := 74) (.int (nI 0)) rfl rfl rfl rfl ?_
      refine x_k (pc := 74) rfl rfl rfl ⟨Nat.le_of_ble_eq_true rfl, Nat.le_of_ble_eq_true rfl, Nat.le_of_ble_eq_true rfl⟩ rfl (k_49_2 (I := I) (A := A) (j := 0) h (Nat.zero_le _) hcn hf hc hsl ?_)
      show mq 47 77 [some (.ref 1), some (.int (nI 2)), some (.int w), some (.ref 23)] [.int (nI (mkS D f (cn - 0) 0))] (hS n u I A J B mk sn L xs X) _
      refine x_ret (pc := 77) rfl rfl ?_
      subst e17
      have ev : lgv D f bc a b cn (nI 3) = nI (mkS D f cn 0) := lkv_3
      rw [ev] at kk
      rw [Nat.sub_zero]
      exact kk I A (Fr_refl _ _) (Fr_refl _ _)
    | 4, _, e17 =>
      refine x_tabi (pc := 17) (i := 4) (t := 78) rfl rfl e17 ?_
      refine x_al1 (pc := 78) rfl rfl ?_
      refine x_al1 (pc := 79) rfl rfl ?_
      refine x_k (pc := 80) rfl rfl rfl ⟨Nat.le_of_ble_eq_true rfl, Nat.le_of_ble_eq_true rfl, Nat.le_of_ble_eq_true rfl⟩ rfl (k_50_2 (I := I) (A := A) h hcn hf hc hsl (fun I1 A1 f1 g1 => ?_))
      show mq 47 83 [some (.ref 1), some (.int (nI 2)), some (.int w), some (.ref 23)] [.int (nI (nL D f bc cn 0))] (hS n u I1 A1 J B mk sn L xs X) _
      refine x_ret (pc := 83) rfl rfl ?_
      subst e17
      have ev : lgv D f bc a b cn (nI 4) = nI (nL D f bc cn 0) := lkv_4
      rw [ev] at kk
      exact kk _ _ (Fr_cons (Fr_refl _ _) f1 (by decide)) (Fr_cons (Fr_refl _ _) g1 (by decide))
    | 5, _, e17 =>
      refine x_tabi (pc := 17) (i := 5) (t := 84) rfl rfl e17 ?_
      refine x_al1 (pc := 84) rfl rfl ?_
      refine g_23_5 (pc := 85) (v := nI cn) rfl rfl hc ?_
      refine x_ifN_ne (pc := 88) (t := 95) rfl rfl (by omega) (fun c88 => ?_) (fun c88 => ?_)
      · refine x_al1 (pc := 95) rfl rfl ?_
        refine g_1_0 (pc := 96) rfl rfl ?_
        refine x_al1 (pc := 99) rfl rfl ?_
        refine x_k (pc := 100) rfl rfl rfl ⟨Nat.le_of_ble_eq_true rfl, Nat.le_of_ble_eq_true rfl, Nat.le_of_ble_eq_true rfl⟩ rfl (k_51_2 (I := I) (A := A) hcn hc hsl (by omega) ?_)
        show mq 47 103 [some (.ref 1), some (.int (nI 2)), some (.int w), some (.ref 23)] [.int (nI (f (cn - 1))), .ref 2] (hS n u I A J B mk sn L xs X) _
        refine x_k (pc := 103) rfl rfl rfl ⟨Nat.le_of_ble_eq_true rfl, Nat.le_of_ble_eq_true rfl, Nat.le_of_ble_eq_true rfl⟩ rfl (mq_k (c_22 h (hf _ (by omega)).1) ?_)
        show mq 47 106 [some (.ref 1), some (.int (nI 2)), some (.int w), some (.ref 23)] [.int (nI (bB D (f (cn - 1))))] (hS n u I A J B mk sn L xs X) _
        refine x_ret (pc := 106) rfl rfl ?_
        subst e17
        have ev : lgv D f bc a b cn (nI 5) = (if cn = 0 then -1 else nI (bB D (f (cn - 1)))) := lkv_5
        rw [ev] at kk
        rw [if_neg c88] at kk
        exact kk I A (Fr_refl _ _) (Fr_refl _ _)
      · refine x_const (pc := 91) (pc' := 92) (.int (-1)) rfl rfl rfl rfl ?_
        refine x_step (pc := 92) (pc' := 106) rfl rfl rfl rfl ?_
        refine x_ret (pc := 106) rfl rfl ?_
        subst e17
        have ev : lgv D f bc a b cn (nI 5) = (if cn = 0 then -1 else nI (bB D (f (cn - 1)))) := lkv_5
        rw [ev] at kk
        rw [if_pos c88] at kk
        exact kk I A (Fr_refl _ _) (Fr_refl _ _)
set_option maxRecDepth 100000 in
set_option maxHeartbeats 4000000 in
theorem l_49_3 (h : DK (A 0) D) {cn : Nat} {f bc : Nat → Nat} {w2 : Int32} (hcn : cn ≤ 16) (hf : ∀ k, k < cn → f k < 16 ∧ WS D (f k) (bc (f k))) (hc : I 49 = nI cn) (hsl : ∀ j, j < cn → A 42 j = nI (f j)) {Q : mO × mHp → Prop} : ∀ (z a k : Nat) , (k + z = cn ∨ (z = 0 ∧ cn ≤ k ∧ k ≤ 16)) → (Q (.inl (some (.int (nI (a + mkS D f z k)))), hS n u I A J B mk sn L xs X)) → mq 49 5 [some (.ref 1), some (.ref 28), some (.int w2), some (.int (nI a)), some (.int (nI k))] [] (hS n u I A J B mk sn L xs X) Q := by
  intro z
  induction z with
  | zero =>
    intro a k  hz kk
    refine x_il2 (pc := 5) rfl rfl ?_
    refine x_al1 (pc := 7) rfl rfl ?_
    refine g_28_5 (pc := 8) (v := nI cn) rfl rfl hc ?_
    refine x_cmpN_ge (pc := 11) (t := 37) rfl rfl (by omega) (by omega) (fun c11 => ?_) (fun c11 => ?_)
    · refine x_il1 (pc := 37) rfl rfl ?_
      refine x_ret (pc := 38) rfl rfl ?_
      exact kk
    · omega
  | succ z ih =>
    intro a k  hz kk
    refine x_il2 (pc := 5) rfl rfl ?_
    refine x_al1 (pc := 7) rfl rfl ?_
    refine g_28_5 (pc := 8) (v := nI cn) rfl rfl hc ?_
    refine x_cmpN_ge (pc := 11) (t := 37) rfl rfl (by omega) (by omega) (fun c11 => ?_) (fun c11 => ?_)
    · omega
    · refine x_il1 (pc := 14) rfl rfl ?_
      refine x_al1 (pc := 15) rfl rfl ?_
      refine g_1_0 (pc := 16) rfl rfl ?_
      refine x_al1 (pc := 19) rfl rfl ?_
      refine g_28_1 (pc := 20) rfl rfl ?_
      refine x_il2 (pc := 23) rfl rfl ?_
      refine al_29 (pc := 25) (q := k) (v := nI (f k)) rfl rfl (by omega) (hsl k (by omega)) ?_
      refine x_k (pc := 26) rfl rfl rfl ⟨Nat.le_of_ble_eq_true rfl, Nat.le_of_ble_eq_true rfl, Nat.le_of_ble_eq_true rfl⟩ rfl (mq_k (c_37 h (hf k (by omega)).1) ?_)
      show mq 49 29 [some (.ref 1), some (.ref 28), some (.int w2), some (.int (nI a)), some (.int (nI k))] [.int (nI (mB D (f k))), .int (nI a)] (hS n u I A J B mk sn L xs X) _
      refine x_iaddN (pc := 29) (c := a + (mB D (f k))) rfl rfl ?_
      refine x_is1 (pc := 30) (ml' := [some (.ref 1), some (.ref 28), some (.int w2), some (.int (nI (a + (mB D (f k))))), some (.int (nI k))]) rfl rfl ?_
      refine x_iincN (pc := 31) (c := 1) (ml' := [some (.ref 1), some (.ref 28), some (.int w2), some (.int (nI (a + (mB D (f k))))), some (.int (nI (k + 1)))]) rfl rfl rfl rfl ?_
      refine x_step (pc := 34) (pc' := 5) rfl rfl rfl rfl ?_
      have ev : a + mkS D f (z + 1) k = a + mB D (f k) + mkS D f z (k + 1) := by
        show a + (mB D (f k) + mkS D f z (k + 1)) = _
        omega
      rw [ev] at kk
      exact ih (a + mB D (f k)) (k + 1) (by omega) kk
set_option maxRecDepth 100000 in
set_option maxHeartbeats 4000000 in
theorem k_49_3 (h : DK (A 0) D) {cn j : Nat} {f bc : Nat → Nat} (hj : j ≤ 1) (hcn : cn ≤ 16) (hf : ∀ k, k < cn → f k < 16 ∧ WS D (f k) (bc (f k))) (hc : I 49 = nI cn) (hsl : ∀ j, j < cn → A 42 j = nI (f j)) {Q : mO × mHp → Prop} (kk : Q (.inl (some (.int (nI (mkS D f (cn - j) j)))), hS n u I A J B mk sn L xs X)) : mq 49 0 [some (.ref 1), some (.ref 28), some (.int (nI j)), none, none] [] (hS n u I A J B mk sn L xs X) Q := by
  refine x_const (pc := 0) (pc' := 1) (.int (nI 0)) rfl rfl rfl rfl ?_
  refine x_is1 (pc := 1) (ml' := [some (.ref 1), some (.ref 28), some (.int (nI j)), some (.int (nI 0)), none]) rfl rfl ?_
  refine x_il1 (pc := 2) rfl rfl ?_
  refine x_is2 (pc := 3) (ml' := [some (.ref 1), some (.ref 28), some (.int (nI j)), some (.int (nI 0)), some (.int (nI j))]) rfl rfl ?_
  rw [← Nat.zero_add (mkS D f (cn - j) j)] at kk
  exact l_49_3 h hcn hf hc hsl (cn - j) 0 j (by omega) kk
set_option maxRecDepth 100000 in
set_option maxHeartbeats 4000000 in
theorem l_50b_3 {s c k : Nat} (hs : s < 16) (hW : WS D s c) {Q : mO × mHp → Prop} : ∀ (z a j e : Nat) {I : Nat → Int32} {A : Nat → Nat → Int32}, (DK (A 0) D) → (j + z = c) → (RS I D s j e) → (e < 1000) → (∀ I' A' j', Fr [4, 5, 6, 7, 8, 9, 10, 20, 21, 22] I I' → Fr [10, 11, 12, 13, 14] A A' → mq 50 72 [some (.ref 1), some (.ref 28), some (.int (nI (a + nE D s z j e))), some (.int (nI k)), some (.int (nI j'))] [] (hS n u I' A' J B mk sn L xs X) Q) → mq 50 30 [some (.ref 1), some (.ref 28), some (.int (nI a)), some (.int (nI k)), some (.int (nI j))] [] (hS n u I A J B mk sn L xs X) Q := by
  intro z
  induction z with
  | zero =>
    intro a j e I A h hz hR he kk
    have q8 := WS_8 hW
    have q9 := WS_128 hW
    refine x_il2 (pc := 30) rfl rfl ?_
    refine x_const (pc := 32) (pc' := 35) (.int (nI 128)) rfl rfl rfl rfl ?_
    refine x_cmpN_ge (pc := 35) (t := 72) rfl rfl (by omega) (by omega) (fun c35 => ?_) (fun c35 => ?_)
    · omega
    · refine x_al1 (pc := 38) rfl rfl ?_
      refine g_1_1 (pc := 39) rfl rfl ?_
      refine x_k (pc := 42) rfl rfl rfl ⟨Nat.le_of_ble_eq_true rfl, Nat.le_of_ble_eq_true rfl, Nat.le_of_ble_eq_true rfl⟩ rfl (rs_end (I := I) (A := A) hW (by omega) hR ?_)
      show mq 50 45 [some (.ref 1), some (.ref 28), some (.int (nI a)), some (.int (nI k)), some (.int (nI j))] [.int (nI 0)] (hS n u I A J B mk sn L xs X) _
      refine x_ifN_eq (pc := 45) (t := 72) rfl rfl (by decide) (fun _ => ?_) (fun c => absurd c (by decide))
      exact kk I A j (Fr_refl _ _) (Fr_refl _ _)
  | succ z ih =>
    intro a j e I A h hz hR he kk
    have hj : j < c := by omega
    have q8 := WS_8 hW
    have q9 := WS_128 hW
    refine x_il2 (pc := 30) rfl rfl ?_
    refine x_const (pc := 32) (pc' := 35) (.int (nI 128)) rfl rfl rfl rfl ?_
    refine x_cmpN_ge (pc := 35) (t := 72) rfl rfl (by omega) (by omega) (fun c35 => ?_) (fun c35 => ?_)
    · omega
    · refine x_al1 (pc := 38) rfl rfl ?_
      refine g_1_1 (pc := 39) rfl rfl ?_
      refine x_k (pc := 42) rfl rfl rfl ⟨Nat.le_of_ble_eq_true rfl, Nat.le_of_ble_eq_true rfl, Nat.le_of_ble_eq_true rfl⟩ rfl (rs_step (I := I) (A := A) h hs hW hj hR he (fun I1 A1 f1 g1 hR1 e7 e10 hb => ?_))
      show mq 50 45 [some (.ref 1), some (.ref 28), some (.int (nI a)), some (.int (nI k)), some (.int (nI j))] [.int (nI 1)] (hS n u I1 A1 J B mk sn L xs X) _
      refine x_ifN_eq (pc := 45) (t := 72) rfl rfl (by decide) (fun c => absurd c (by decide)) (fun _ => ?_)
      refine x_il1 (pc := 48) rfl rfl ?_
      refine x_al1 (pc := 49) rfl rfl ?_
      refine g_1_1 (pc := 50) rfl rfl ?_
      refine g_4_8 (pc := 53) (v := nI (if e ≤ pb D s j then 1 else 0)) rfl rfl e10 ?_
      refine x_ifN_eq (pc := 56) (t := 63) rfl rfl (by split <;> omega) (fun c56 => ?_) (fun c56 => ?_)
      · have c56 : ¬ e ≤ pb D s j := fun q => absurd c56 (by rw [if_pos q]; decide)
        refine x_const (pc := 63) (pc' := 64) (.int (nI 0)) rfl rfl rfl rfl ?_
        refine x_iaddN (pc := 64) (c := a + 0) rfl rfl ?_
        refine x_is1 (pc := 65) (ml' := [some (.ref 1), some (.ref 28), some (.int (nI (a + 0))), some (.int (nI k)), some (.int (nI j))]) rfl rfl ?_
        refine x_iincN (pc := 66) (c := 1) (ml' := [some (.ref 1), some (.ref 28), some (.int (nI (a + 0))), some (.int (nI k)), some (.int (nI (j + 1)))]) rfl rfl rfl rfl ?_
        refine x_step (pc := 69) (pc' := 30) rfl rfl rfl rfl ?_
        have ev : a + nE D s (z + 1) j e = a + 0 + nE D s z (j + 1) (eN e (pb D s j)) := by
          show a + ((if e ≤ pb D s j then 1 else 0) + nE D s z (j + 1) (eN e (pb D s j))) = _
          rw [if_neg c56]
          omega
        rw [ev] at kk
        exact ih (a + 0) (j + 1) (eN e (pb D s j)) (I := I1) (A := A1) (by rw [g1 0 (by decide)]; exact h) (by omega) hR1 (eN_lt he (pb_le hW (by omega))) (fun I2 A2 j2 f2 g2 => kk I2 A2 j2 (Fr_cons (Fr_cons (Fr_refl _ _) f1 (by decide)) f2 (by decide)) (Fr_cons (Fr_cons (Fr_refl _ _) g1 (by decide)) g2 (by decide)))
      · have c56 : e ≤ pb D s j := Classical.byContradiction fun q => c56 (if_neg q)
        refine x_const (pc := 59) (pc' := 60) (.int (nI 1)) rfl rfl rfl rfl ?_
        refine x_step (pc := 60) (pc' := 64) rfl rfl rfl rfl ?_
        refine x_iaddN (pc := 64) (c := a + 1) rfl rfl ?_
        refine x_is1 (pc := 65) (ml' := [some (.ref 1), some (.ref 28), some (.int (nI (a + 1))), some (.int (nI k)), some (.int (nI j))]) rfl rfl ?_
        refine x_iincN (pc := 66) (c := 1) (ml' := [some (.ref 1), some (.ref 28), some (.int (nI (a + 1))), some (.int (nI k)), some (.int (nI (j + 1)))]) rfl rfl rfl rfl ?_
        refine x_step (pc := 69) (pc' := 30) rfl rfl rfl rfl ?_
        have ev : a + nE D s (z + 1) j e = a + 1 + nE D s z (j + 1) (eN e (pb D s j)) := by
          show a + ((if e ≤ pb D s j then 1 else 0) + nE D s z (j + 1) (eN e (pb D s j))) = _
          rw [if_pos c56]
          omega
        rw [ev] at kk
        exact ih (a + 1) (j + 1) (eN e (pb D s j)) (I := I1) (A := A1) (by rw [g1 0 (by decide)]; exact h) (by omega) hR1 (eN_lt he (pb_le hW (by omega))) (fun I2 A2 j2 f2 g2 => kk I2 A2 j2 (Fr_cons (Fr_cons (Fr_refl _ _) f1 (by decide)) f2 (by decide)) (Fr_cons (Fr_cons (Fr_refl _ _) g1 (by decide)) g2 (by decide)))
set_option maxRecDepth 100000 in
set_option maxHeartbeats 4000000 in
theorem l_50_3 {cn : Nat} {f bc : Nat → Nat} (hcn : cn ≤ 16) (hf : ∀ k, k < cn → f k < 16 ∧ WS D (f k) (bc (f k))) {Q : mO × mHp → Prop} : ∀ (z a k : Nat) (w4 : Option Value) {I : Nat → Int32} {A : Nat → Nat → Int32}, (DK (A 0) D) → (k + z = cn) → (I 49 = nI cn) → (∀ j, j < cn → A 42 j = nI (f j)) → (∀ I' A', Fr [4, 5, 6, 7, 8, 9, 10, 20, 21, 22] I I' → Fr [10, 11, 12, 13, 14] A A' → Q (.inl (some (.int (nI (a + nL D f bc z k)))), hS n u I' A' J B mk sn L xs X)) → mq 50 4 [some (.ref 1), some (.ref 28), some (.int (nI a)), some (.int (nI k)), w4] [] (hS n u I A J B mk sn L xs X) Q := by
  intro z
  induction z with
  | zero =>
    intro a k w4 I A h hz hc hsl kk
    refine x_il1 (pc := 4) rfl rfl ?_
    refine x_al1 (pc := 5) rfl rfl ?_
    refine g_28_5 (pc := 6) (v := nI cn) rfl rfl hc ?_
    refine x_cmpN_ge (pc := 9) (t := 78) rfl rfl (by omega) (by omega) (fun c9 => ?_) (fun c9 => ?_)
    · refine x_il1 (pc := 78) rfl rfl ?_
      refine x_ret (pc := 79) rfl rfl ?_
      exact kk I A (Fr_refl _ _) (Fr_refl _ _)
    · omega
  | succ z ih =>
    intro a k w4 I A h hz hc hsl kk
    have hk : k < cn := by omega
    refine x_il1 (pc := 4) rfl rfl ?_
    refine x_al1 (pc := 5) rfl rfl ?_
    refine g_28_5 (pc := 6) (v := nI cn) rfl rfl hc ?_
    refine x_cmpN_ge (pc := 9) (t := 78) rfl rfl (by omega) (by omega) (fun c9 => ?_) (fun c9 => ?_)
    · omega
    · refine x_al1 (pc := 12) rfl rfl ?_
      refine g_1_1 (pc := 13) rfl rfl ?_
      refine x_al1 (pc := 16) rfl rfl ?_
      refine g_28_1 (pc := 17) rfl rfl ?_
      refine x_il1 (pc := 20) rfl rfl ?_
      refine al_29 (pc := 21) (q := k) (v := nI (f k)) rfl rfl (by omega) (hsl k hk) ?_
      refine x_const (pc := 22) (pc' := 24) (.int (nI 8)) rfl rfl rfl rfl ?_
      refine x_k (pc := 24) rfl rfl rfl ⟨Nat.le_of_ble_eq_true rfl, Nat.le_of_ble_eq_true rfl, Nat.le_of_ble_eq_true rfl⟩ rfl (rs_open (I := I) (A := A) (j := 0) (c := bc (f k)) h (hf k hk).1 (hf k hk).2 (Nat.zero_le _) (pb_0 D (f k)).symm (fun I1 f1 hR => ?_))
      show mq 50 27 [some (.ref 1), some (.ref 28), some (.int (nI a)), some (.int (nI k)), w4] [] (hS n u I1 A J B mk sn L xs X) _
      refine x_const (pc := 27) (pc' := 28) (.int (nI 0)) rfl rfl rfl rfl ?_
      refine x_is2 (pc := 28) (ml' := [some (.ref 1), some (.ref 28), some (.int (nI a)), some (.int (nI k)), some (.int (nI 0))]) rfl rfl ?_
      refine l_50b_3 (I := I1) (A := A) (s := f k) (c := bc (f k)) (hf k hk).1 (hf k hk).2 (bc (f k)) a 0 8 h (Nat.zero_add _) hR (by decide) (fun I2 A2 j2 f2 g2 => ?_)
      refine x_iincN (pc := 72) (c := 1) (ml' := [some (.ref 1), some (.ref 28), some (.int (nI (a + nE D (f k) (bc (f k)) 0 8))), some (.int (nI (k + 1))), some (.int (nI j2))]) rfl rfl rfl rfl ?_
      refine x_step (pc := 75) (pc' := 4) rfl rfl rfl rfl ?_
      have ev : a + nL D f bc (z + 1) k = a + nE D (f k) (bc (f k)) 0 8 + nL D f bc z (k + 1) := by
        show a + (nE D (f k) (bc (f k)) 0 8 + nL D f bc z (k + 1)) = _
        omega
      rw [ev] at kk
      exact ih (a + nE D (f k) (bc (f k)) 0 8) (k + 1) _ (I := I2) (A := A2) (by rw [g2 0 (by decide)]; exact h) (by omega) ((f2 49 (by decide)).trans ((f1 49 (by decide)).trans hc)) (fun j hj => by rw [g2 42 (by decide)]; exact hsl j hj) (fun I3 A3 f3 g3 => kk I3 A3 (Fr_cons (Fr_cons (Fr_cons (Fr_refl _ _) f1 (by decide)) f2 (by decide)) f3 (by decide)) (Fr_cons (Fr_cons (Fr_refl _ _) g2 (by decide)) g3 (by decide)))
set_option maxRecDepth 100000 in
set_option maxHeartbeats 4000000 in
theorem k_50_3 (h : DK (A 0) D) {cn : Nat} {f bc : Nat → Nat} (hcn : cn ≤ 16) (hf : ∀ k, k < cn → f k < 16 ∧ WS D (f k) (bc (f k))) (hc : I 49 = nI cn) (hsl : ∀ j, j < cn → A 42 j = nI (f j)) {Q : mO × mHp → Prop} (kk : ∀ I' A', Fr [4, 5, 6, 7, 8, 9, 10, 20, 21, 22] I I' → Fr [10, 11, 12, 13, 14] A A' → Q (.inl (some (.int (nI (nL D f bc cn 0)))), hS n u I' A' J B mk sn L xs X)) : mq 50 0 [some (.ref 1), some (.ref 28), none, none, none] [] (hS n u I A J B mk sn L xs X) Q := by
  refine x_const (pc := 0) (pc' := 1) (.int (nI 0)) rfl rfl rfl rfl ?_
  refine x_is1 (pc := 1) (ml' := [some (.ref 1), some (.ref 28), some (.int (nI 0)), none, none]) rfl rfl ?_
  refine x_const (pc := 2) (pc' := 3) (.int (nI 0)) rfl rfl rfl rfl ?_
  refine x_is1 (pc := 3) (ml' := [some (.ref 1), some (.ref 28), some (.int (nI 0)), some (.int (nI 0)), none]) rfl rfl ?_
  rw [← Nat.zero_add (nL D f bc cn 0)] at kk
  exact l_50_3 hcn hf cn 0 0 none h (Nat.zero_add _) hc hsl kk
set_option maxRecDepth 100000 in
set_option maxHeartbeats 4000000 in
theorem k_51_3 {cn : Nat} {f : Nat → Nat} (hcn : cn ≤ 16) (hc : I 49 = nI cn) (hsl : ∀ j, j < cn → A 42 j = nI (f j)) (hp : 0 < cn) {Q : mO × mHp → Prop} (kk : Q (.inl (some (.int (nI (f (cn - 1))))), hS n u I A J B mk sn L xs X)) : mq 51 0 [some (.ref 28)] [] (hS n u I A J B mk sn L xs X) Q := by
  refine x_al1 (pc := 0) rfl rfl ?_
  refine g_28_5 (pc := 1) (v := nI cn) rfl rfl hc ?_
  refine x_ifN_le (pc := 4) (t := 21) rfl rfl (by omega) (fun c4 => ?_) (fun c4 => ?_)
  · omega
  · refine x_al1 (pc := 7) rfl rfl ?_
    refine g_28_1 (pc := 8) rfl rfl ?_
    refine x_al1 (pc := 11) rfl rfl ?_
    refine g_28_5 (pc := 12) (v := nI cn) rfl rfl hc ?_
    refine x_const (pc := 15) (pc' := 16) (.int (nI 1)) rfl rfl rfl rfl ?_
    refine x_isubN (pc := 16) rfl (hp) ?_
    refine al_29 (pc := 17) (q := cn - 1) (v := nI (f (cn - 1))) rfl rfl (by omega) (hsl _ (by omega)) ?_
    refine x_step (pc := 18) (pc' := 22) rfl rfl rfl rfl ?_
    refine x_ret (pc := 22) rfl rfl ?_
    exact kk
set_option maxRecDepth 100000 in
set_option maxHeartbeats 4000000 in
theorem k_47_3 (h : DK (A 0) D) {cn : Nat} {f bc : Nat → Nat} {a b w : Int32} (hcn : cn ≤ 16) (hf : ∀ k, k < cn → f k < 16 ∧ WS D (f k) (bc (f k))) (hc : I 49 = nI cn) (hsl : ∀ j, j < cn → A 42 j = nI (f j)) (ha : I 50 = a) (hb : I 51 = b) {Q : mO × mHp → Prop} (kk : ∀ I' A', Fr [4, 5, 6, 7, 8, 9, 10, 20, 21, 22] I I' → Fr [10, 11, 12, 13, 14] A A' → Q (.inl (some (.int (lgv D f bc a b cn w))), hS n u I' A' J B mk sn L xs X)) : mq 47 0 [some (.ref 1), some (.int (nI 3)), some (.int w), none] [] (hS n u I A J B mk sn L xs X) Q := by
  refine x_il1 (pc := 0) rfl rfl ?_
  refine x_k (pc := 1) rfl rfl rfl ⟨Nat.le_of_ble_eq_true rfl, Nat.le_of_ble_eq_true rfl, Nat.le_of_ble_eq_true rfl⟩ rfl (k_48 (I := I) (A := A) (by decide) ?_)
  show mq 47 4 [some (.ref 1), some (.int (nI 3)), some (.int w), none] [.int (nI 1)] (hS n u I A J B mk sn L xs X) _
  refine x_ifN_ne (pc := 4) (t := 9) rfl rfl (by decide) (fun _ => ?_) (fun c => absurd c (by decide))
  refine x_al1 (pc := 9) rfl rfl ?_
  refine g_1_2 (pc := 10) rfl rfl ?_
  refine x_il1 (pc := 13) rfl rfl ?_
  refine aal (pc := 14) (q := 3) (a := 28) rfl rfl (by decide) rfl ?_
  refine x_as1 (pc := 15) (ml' := [some (.ref 1), some (.int (nI 3)), some (.int w), some (.ref 28)]) rfl rfl ?_
  refine x_il1 (pc := 16) rfl rfl ?_
  rcases pk_ix w (n := 6) (by decide) with c17 | c17 | ⟨j17, c17, e17⟩
  · refine x_tabd (pc := 17) (t := 107) rfl rfl (Or.inl (tab_lt c17)) ?_
    refine x_const (pc := 107) (pc' := 108) (.int (-1)) rfl rfl rfl rfl ?_
    refine x_ret (pc := 108) rfl rfl ?_
    have ev : lgv D f bc a b cn w = -1 := lkv_b (by first | exact Or.inl c17 | exact Or.inr c17)
    rw [ev] at kk
    exact kk I A (Fr_refl _ _) (Fr_refl _ _)
  · refine x_tabd (pc := 17) (t := 107) rfl rfl (Or.inr (tab_ge (n := 5) (by decide) c17)) ?_
    refine x_const (pc := 107) (pc' := 108) (.int (-1)) rfl rfl rfl rfl ?_
    refine x_ret (pc := 108) rfl rfl ?_
    have ev : lgv D f bc a b cn w = -1 := lkv_b (by first | exact Or.inl c17 | exact Or.inr c17)
    rw [ev] at kk
    exact kk I A (Fr_refl _ _) (Fr_refl _ _)
  · match j17, c17, e17 with
    | 0, _, e17 =>
      refine x_tabi (pc := 17) (i := 0) (t := 56) rfl rfl e17 ?_
      refine x_al1 (pc := 56) rfl rfl ?_
      refine g_28_6 (pc := 57) (v := a) rfl rfl ha ?_
      refine x_ret (pc := 60) rfl rfl ?_
      subst e17
      have ev : lgv D f bc a b cn (nI 0) = a := lkv_0
      rw [ev] at kk
      exact kk _ _ (Fr_refl _ _) (Fr_refl _ _)
    | 1, _, e17 =>
      refine x_tabi (pc := 17) (i := 1) (t := 61) rfl rfl e17 ?_
      refine x_al1 (pc := 61) rfl rfl ?_
      refine g_28_7 (pc := 62) (v := b) rfl rfl hb ?_
      refine x_ret (pc := 65) rfl rfl ?_
      subst e17
      have ev : lgv D f bc a b cn (nI 1) = b := lkv_1
      rw [ev] at kk
      exact kk _ _ (Fr_refl _ _) (Fr_refl _ _)
    | 2, _, e17 =>
      refine x_tabi (pc := 17) (i := 2) (t := 66) rfl rfl e17 ?_
      refine x_al1 (pc := 66) rfl rfl ?_
      refine g_28_5 (pc := 67) (v := nI cn) rfl rfl hc ?_
      refine x_ret (pc := 70) rfl rfl ?_
      subst e17
      have ev : lgv D f bc a b cn (nI 2) = nI cn := lkv_2
      rw [ev] at kk
      exact kk _ _ (Fr_refl _ _) (Fr_refl _ _)
    | 3, _, e17 =>
      refine x_tabi (pc := 17) (i := 3) (t := 71) rfl rfl e17 ?_
      refine x_al1 (pc := 71) rfl rfl ?_
      refine x_al1 (pc := 72) rfl rfl ?_
      refine x_const (pc := 73) (pc' := 74) (.int (nI 0)) rfl rfl rfl rfl ?_
      refine x_k (pc := 74) rfl rfl rfl ⟨Nat.le_of_ble_eq_true rfl, Nat.le_of_ble_eq_true rfl, Nat.le_of_ble_eq_true rfl⟩ rfl (k_49_3 (I := I) (A := A) (j := 0) h (Nat.zero_le _) hcn hf hc hsl ?_)
      show mq 47 77 [some (.ref 1), some (.int (nI 3)), some (.int w), some (.ref 28)] [.int (nI (mkS D f (cn - 0) 0))] (hS n u I A J B mk sn L xs X) _
      refine x_ret (pc := 77) rfl rfl ?_
      subst e17
      have ev : lgv D f bc a b cn (nI 3) = nI (mkS D f cn 0) := lkv_3
      rw [ev] at kk
      rw [Nat.sub_zero]
      exact kk I A (Fr_refl _ _) (Fr_refl _ _)
    | 4, _, e17 =>
      refine x_tabi (pc := 17) (i := 4) (t := 78) rfl rfl e17 ?_
      refine x_al1 (pc := 78) rfl rfl ?_
      refine x_al1 (pc := 79) rfl rfl ?_
      refine x_k (pc := 80) rfl rfl rfl ⟨Nat.le_of_ble_eq_true rfl, Nat.le_of_ble_eq_true rfl, Nat.le_of_ble_eq_true rfl⟩ rfl (k_50_3 (I := I) (A := A) h hcn hf hc hsl (fun I1 A1 f1 g1 => ?_))
      show mq 47 83 [some (.ref 1), some (.int (nI 3)), some (.int w), some (.ref 28)] [.int (nI (nL D f bc cn 0))] (hS n u I1 A1 J B mk sn L xs X) _
      refine x_ret (pc := 83) rfl rfl ?_
      subst e17
      have ev : lgv D f bc a b cn (nI 4) = nI (nL D f bc cn 0) := lkv_4
      rw [ev] at kk
      exact kk _ _ (Fr_cons (Fr_refl _ _) f1 (by decide)) (Fr_cons (Fr_refl _ _) g1 (by decide))
    | 5, _, e17 =>
      refine x_tabi (pc := 17) (i := 5) (t := 84) rfl rfl e17 ?_
      refine x_al1 (pc := 84) rfl rfl ?_
      refine g_28_5 (pc := 85) (v := nI cn) rfl rfl hc ?_
      refine x_ifN_ne (pc := 88) (t := 95) rfl rfl (by omega) (fun c88 => ?_) (fun c88 => ?_)
      · refine x_al1 (pc := 95) rfl rfl ?_
        refine g_1_0 (pc := 96) rfl rfl ?_
        refine x_al1 (pc := 99) rfl rfl ?_
        refine x_k (pc := 100) rfl rfl rfl ⟨Nat.le_of_ble_eq_true rfl, Nat.le_of_ble_eq_true rfl, Nat.le_of_ble_eq_true rfl⟩ rfl (k_51_3 (I := I) (A := A) hcn hc hsl (by omega) ?_)
        show mq 47 103 [some (.ref 1), some (.int (nI 3)), some (.int w), some (.ref 28)] [.int (nI (f (cn - 1))), .ref 2] (hS n u I A J B mk sn L xs X) _
        refine x_k (pc := 103) rfl rfl rfl ⟨Nat.le_of_ble_eq_true rfl, Nat.le_of_ble_eq_true rfl, Nat.le_of_ble_eq_true rfl⟩ rfl (mq_k (c_22 h (hf _ (by omega)).1) ?_)
        show mq 47 106 [some (.ref 1), some (.int (nI 3)), some (.int w), some (.ref 28)] [.int (nI (bB D (f (cn - 1))))] (hS n u I A J B mk sn L xs X) _
        refine x_ret (pc := 106) rfl rfl ?_
        subst e17
        have ev : lgv D f bc a b cn (nI 5) = (if cn = 0 then -1 else nI (bB D (f (cn - 1)))) := lkv_5
        rw [ev] at kk
        rw [if_neg c88] at kk
        exact kk I A (Fr_refl _ _) (Fr_refl _ _)
      · refine x_const (pc := 91) (pc' := 92) (.int (-1)) rfl rfl rfl rfl ?_
        refine x_step (pc := 92) (pc' := 106) rfl rfl rfl rfl ?_
        refine x_ret (pc := 106) rfl rfl ?_
        subst e17
        have ev : lgv D f bc a b cn (nI 5) = (if cn = 0 then -1 else nI (bB D (f (cn - 1)))) := lkv_5
        rw [ev] at kk
        rw [if_pos c88] at kk
        exact kk I A (Fr_refl _ _) (Fr_refl _ _)
set_option maxRecDepth 100000 in
set_option maxHeartbeats 4000000 in
theorem k_47b {l w : Int32} (hx : l < 0 ∨ nI 4 ≤ l) {Q : mO × mHp → Prop} (kk : Q (.inl (some (.int (-1))), hS n u I A J B mk sn L xs X)) : mq 47 0 [some (.ref 1), some (.int l), some (.int w), none] [] (hS n u I A J B mk sn L xs X) Q := by
  refine x_il1 (pc := 0) rfl rfl ?_
  refine x_k (pc := 1) rfl rfl rfl ⟨Nat.le_of_ble_eq_true rfl, Nat.le_of_ble_eq_true rfl, Nat.le_of_ble_eq_true rfl⟩ rfl (k_48b (I := I) (A := A) hx ?_)
  show mq 47 4 [some (.ref 1), some (.int l), some (.int w), none] [.int (nI 0)] (hS n u I A J B mk sn L xs X) _
  refine x_ifN_ne (pc := 4) (t := 9) rfl rfl (by decide) (fun c => absurd c (by decide)) (fun _ => ?_)
  refine x_const (pc := 7) (pc' := 8) (.int (-1)) rfl rfl rfl rfl ?_
  refine x_ret (pc := 8) rfl rfl ?_
  exact kk
end S41
