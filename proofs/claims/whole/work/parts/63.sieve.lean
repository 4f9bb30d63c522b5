/-! The sieve; a batch is sifted. -/
/-- the sieve holds the keys of the records L -/
def SV (I : Nat → Int32) (A : Nat → Nat → Int32) (L : List R5) : Prop := I 12 = nI L.length ∧ ∀ j, j < L.length → A 2 j = (gR L j).2.2.1
theorem SV_fr {SI SA : List Nat} {I I' : Nat → Int32} {A A' : Nat → Nat → Int32} {L : List R5} (h : SV I A L) (f : Fr SI I I') (g : Fr SA A A') (hi : 12 ∉ SI) (ha : 2 ∉ SA) : SV I' A' L := ⟨(f 12 hi).trans h.1, fun j hj => by rw [g 2 ha]; exact h.2 j hj⟩
theorem SV_s {I I' : Nat → Int32} {A A' : Nat → Nat → Int32} {L : List R5} {r : R5} (h : SV I A L) (hI : I' 12 = nI (L.length + 1)) (hA : A' 2 = upd (A 2) L.length r.2.2.1) : SV I' A' (L ++ [r]) := by
  refine ⟨by rw [hI]; simp, fun j hj => ?_⟩
  rw [hA]
  by_cases hl : j = L.length
  · subst hl
    rw [gR_at, pk_us]
  · have hj' : j < L.length := by
      simp at hj
      omega
    rw [gR_lt hj', pk_un hl]
    exact h.2 j hj'
/-- whether the key of a comes again among z from i on -/
def ltr (L : List R5) (a : Nat) : Nat → Nat → Bool
  | 0, _ => false
  | z + 1, i => if (gR L i).2.2.1 = (gR L a).2.2.1 then true else ltr L a z (i + 1)
/-- whether a cleaning leaves a record out: the a-th of L, of time t, a deletion or not -/
def lo (L : List R5) (lim : Int64) (a : Nat) (t : Int32) (d : Nat) : Bool := (decide (d = 1) && decide (t.toInt64 < lim)) || ltr L a (L.length - (a + 1)) (a + 1)
theorem BT_s {b : Nat} {I I' : Nat → Int32} {A A' : Nat → Nat → Int32} {l : List R5} {p s : Int32} {v : R5} (h : BT b I A l p s) (h0 : I' (20 + 3 * b) = I (20 + 3 * b)) (h1 : I' (21 + 3 * b) = I (21 + 3 * b)) (hI : I' (22 + 3 * b) = nI (l.length + 1)) (e0 : A' (10 + 5 * b) = upd (A (10 + 5 * b)) l.length v.1) (e1 : A' (11 + 5 * b) = upd (A (11 + 5 * b)) l.length v.2.1) (e2 : A' (12 + 5 * b) = upd (A (12 + 5 * b)) l.length v.2.2.1) (e3 : A' (13 + 5 * b) = upd (A (13 + 5 * b)) l.length v.2.2.2.1) (e4 : A' (14 + 5 * b) = upd (A (14 + 5 * b)) l.length v.2.2.2.2) : BT b I' A' (l ++ [v]) p s := by
  refine ⟨h0.trans h.1, h1.trans h.2.1, by rw [hI]; simp, fun i hi => ?_⟩
  rw [e0, e1, e2, e3, e4]
  by_cases hl : i = l.length
  · subst hl
    rw [gR_at]
    exact ⟨pk_us, pk_us, pk_us, pk_us, pk_us⟩
  · have hi' : i < l.length := by
      simp at hi
      omega
    rw [gR_lt hi', pk_un hl, pk_un hl, pk_un hl, pk_un hl, pk_un hl]
    exact h.2.2.2 i hi'
/-- the records that stay -/
def kc (g : Nat → R5) (p : Nat → Bool) : Nat → List R5
  | 0 => []
  | k + 1 => if p k = true then kc g p k else kc g p k ++ [g k]
theorem kc_le (g : Nat → R5) (p : Nat → Bool) : ∀ k, (kc g p k).length ≤ k
  | 0 => Nat.le_refl 0
  | k + 1 => by
    have h := kc_le g p k
    show (if p k = true then kc g p k else kc g p k ++ [g k]).length ≤ k + 1
    split
    · omega
    · rw [List.length_append]
      show _ + 1 ≤ _
      omega
section S63
variable {n u : Nat} {I : Nat → Int32} {A : Nat → Nat → Int32} {J : Int64} {B : Nat → Int64} {mk sn L : Nat} {xs : Nat → Int32} {X : Nat → mC} {D : Nat → Nat} 
set_option maxRecDepth 100000 in
set_option maxHeartbeats 4000000 in
theorem k_95 {lim : Int64} {Q : mO × mHp → Prop} (kk : Q (.inl none, hS n u (va_up (va_up I 12 (nI 0)) 13 (nI 0)) A lim B mk sn L xs X)) : mq 95 0 [some (.ref 40), some (.long lim), none] [] (hS n u I A J B mk sn L xs X) Q := by
  refine x_al1 (pc := 0) rfl rfl ?_
  refine x_const (pc := 1) (pc' := 2) (.int (nI 0)) rfl rfl rfl rfl ?_
  refine p_40_1 (pc := 2) rfl rfl ?_
  refine x_al1 (pc := 5) rfl rfl ?_
  refine x_const (pc := 6) (pc' := 7) (.int (nI 0)) rfl rfl rfl rfl ?_
  refine p_40_2 (pc := 7) rfl rfl ?_
  refine x_al1 (pc := 10) rfl rfl ?_
  refine x_step (pc := 11) (pc' := 12) rfl rfl rfl rfl ?_
  refine p_40_3 (pc := 12) rfl rfl ?_
  refine x_ret (pc := 15) rfl rfl ?_
  exact kk
set_option maxRecDepth 100000 in
set_option maxHeartbeats 4000000 in
theorem k_96 {Z : List R5} {r : R5} (hS0 : SV I A Z) (hL : Z.length < 512) {Q : mO × mHp → Prop} (kk : ∀ I' A', Fr [12] I I' → Fr [2] A A' → SV I' A' (Z ++ [r]) → Q (.inl none, hS n u I' A' J B mk sn L xs X)) : mq 96 0 [some (.ref 40), some (.int r.2.2.1)] [] (hS n u I A J B mk sn L xs X) Q := by
  refine x_al1 (pc := 0) rfl rfl ?_
  refine g_40_1 (pc := 1) (v := nI Z.length) rfl rfl hS0.1 ?_
  refine x_al1 (pc := 4) rfl rfl ?_
  refine g_40_0 (pc := 5) rfl rfl ?_
  refine ln_41 (pc := 8) rfl ?_
  refine x_cmpN_ge (pc := 9) (t := 32) rfl rfl (by omega) (by omega) (fun c9 => ?_) (fun c9 => ?_)
  · omega
  · refine x_al1 (pc := 12) rfl rfl ?_
    refine g_40_0 (pc := 13) rfl rfl ?_
    refine x_al1 (pc := 16) rfl rfl ?_
    refine g_40_1 (pc := 17) (v := nI Z.length) rfl rfl hS0.1 ?_
    refine x_il1 (pc := 20) rfl rfl ?_
    refine as_41 (pc := 21) (q := Z.length) rfl rfl (by omega) ?_
    refine x_al1 (pc := 22) rfl rfl ?_
    refine x_step (pc := 23) (pc' := 24) (st' := [.ref 40, .ref 40]) rfl rfl rfl rfl ?_
    refine g_40_1 (pc := 24) (v := nI Z.length) rfl rfl hS0.1 ?_
    refine x_const (pc := 27) (pc' := 28) (.int (nI 1)) rfl rfl rfl rfl ?_
    refine x_iaddN (pc := 28) (c := Z.length + 1) rfl rfl ?_
    refine p_40_1 (pc := 29) rfl rfl ?_
    refine x_ret (pc := 32) rfl rfl ?_
    exact kk _ _ (Fr_u (Fr_refl _ _) (by decide)) (Fr_u (Fr_refl _ _) (by decide)) (SV_s hS0 rfl rfl)
set_option maxRecDepth 100000 in
set_option maxHeartbeats 4000000 in
theorem l_100 {Z : List R5} {a : Nat} (hS0 : SV I A Z) (hL : Z.length ≤ 512) (ha : a < Z.length) {Q : mO × mHp → Prop} : ∀ (z i : Nat) , (i + z = Z.length) → (Q (.inl (some (.int (nI (if ltr Z a z i = true then 1 else 0)))), hS n u I A J B mk sn L xs X)) → mq 100 18 [some (.ref 40), some (.int (nI a)), some (.int (nI i))] [] (hS n u I A J B mk sn L xs X) Q := by
  intro z
  induction z with
  | zero =>
    intro i  hz kk
    refine x_il1 (pc := 18) rfl rfl ?_
    refine x_al1 (pc := 19) rfl rfl ?_
    refine g_40_1 (pc := 20) (v := nI Z.length) rfl rfl hS0.1 ?_
    refine x_cmpN_ge (pc := 23) (t := 49) rfl rfl (by omega) (by omega) (fun c23 => ?_) (fun c23 => ?_)
    · refine x_const (pc := 49) (pc' := 50) (.int (nI 0)) rfl rfl rfl rfl ?_
      refine x_ret (pc := 50) rfl rfl ?_
      exact kk
    · omega
  | succ z ih =>
    intro i  hz kk
    refine x_il1 (pc := 18) rfl rfl ?_
    refine x_al1 (pc := 19) rfl rfl ?_
    refine g_40_1 (pc := 20) (v := nI Z.length) rfl rfl hS0.1 ?_
    refine x_cmpN_ge (pc := 23) (t := 49) rfl rfl (by omega) (by omega) (fun c23 => ?_) (fun c23 => ?_)
    · omega
    · refine x_al1 (pc := 26) rfl rfl ?_
      refine g_40_0 (pc := 27) rfl rfl ?_
      refine x_il1 (pc := 30) rfl rfl ?_
      refine al_41 (pc := 31) (q := i) (v := (gR Z i).2.2.1) rfl rfl (by omega) (hS0.2 i (by omega)) ?_
      refine x_al1 (pc := 32) rfl rfl ?_
      refine g_40_0 (pc := 33) rfl rfl ?_
      refine x_il1 (pc := 36) rfl rfl ?_
      refine al_41 (pc := 37) (q := a) (v := (gR Z a).2.2.1) rfl rfl (by omega) (hS0.2 a (by omega)) ?_
      refine x_cmp_ne (pc := 38) (t := 43) rfl rfl rfl (fun c38 => ?_) (fun c38 => ?_)
      · have ev : ltr Z a (z + 1) i = ltr Z a z (i + 1) := if_neg c38
        rw [ev] at kk
        refine x_iincN (pc := 43) (c := 1) (ml' := [some (.ref 40), some (.int (nI a)), some (.int (nI (i + 1)))]) rfl rfl rfl rfl ?_
        refine x_step (pc := 46) (pc' := 18) rfl rfl rfl rfl ?_
        exact ih (i + 1) (by omega) kk
      · have ev : ltr Z a (z + 1) i = true := if_pos c38
        rw [ev] at kk
        refine x_const (pc := 41) (pc' := 42) (.int (nI 1)) rfl rfl rfl rfl ?_
        refine x_ret (pc := 42) rfl rfl ?_
        exact kk
set_option maxRecDepth 100000 in
set_option maxHeartbeats 4000000 in
theorem k_100 {Z : List R5} {a : Nat} (hS0 : SV I A Z) (hL : Z.length ≤ 512) (ha : a < Z.length) {Q : mO × mHp → Prop} (kk : Q (.inl (some (.int (nI (if ltr Z a (Z.length - (a + 1)) (a + 1) = true then 1 else 0)))), hS n u I A J B mk sn L xs X)) : mq 100 0 [some (.ref 40), some (.int (nI a)), none] [] (hS n u I A J B mk sn L xs X) Q := by
  refine x_il1 (pc := 0) rfl rfl ?_
  refine x_ifN_lt (pc := 1) (t := 12) rfl rfl (by omega) ?_
  refine x_il1 (pc := 4) rfl rfl ?_
  refine x_al1 (pc := 5) rfl rfl ?_
  refine g_40_1 (pc := 6) (v := nI Z.length) rfl rfl hS0.1 ?_
  refine x_cmpN_lt (pc := 9) (t := 14) rfl rfl (by omega) (by omega) (fun c9 => ?_) (fun c9 => ?_)
  · refine x_il1 (pc := 14) rfl rfl ?_
    refine x_const (pc := 15) (pc' := 16) (.int (nI 1)) rfl rfl rfl rfl ?_
    refine x_iaddN (pc := 16) (c := a + 1) rfl rfl ?_
    refine x_is1 (pc := 17) (ml' := [some (.ref 40), some (.int (nI a)), some (.int (nI (a + 1)))]) rfl rfl ?_
    exact l_100 hS0 hL ha (Z.length - (a + 1)) (a + 1) (by omega) kk
  · omega
set_option maxRecDepth 100000 in
set_option maxHeartbeats 4000000 in
theorem k_99_0 {Z : List R5} {a : Nat} {t : Int32} (hS0 : SV I A Z) (hL : Z.length ≤ 512) (ha : a < Z.length) (h13 : I 13 = nI a) {Q : mO × mHp → Prop} (kk : Q (.inl (some (.int (nI (if lo Z J a t 0 = true then 1 else 0)))), hS n u (va_up I 13 (nI (a + 1))) A J B mk sn L xs X)) : mq 99 0 [some (.ref 40), some (.int t), some (.int (nI 0)), none] [] (hS n u I A J B mk sn L xs X) Q := by
  refine x_al1 (pc := 0) rfl rfl ?_
  refine g_40_2 (pc := 1) (v := nI a) rfl rfl h13 ?_
  refine x_is1 (pc := 4) (ml' := [some (.ref 40), some (.int t), some (.int (nI 0)), some (.int (nI a))]) rfl rfl ?_
  refine x_al1 (pc := 5) rfl rfl ?_
  refine x_step (pc := 6) (pc' := 7) (st' := [.ref 40, .ref 40]) rfl rfl rfl rfl ?_
  refine g_40_2 (pc := 7) (v := nI a) rfl rfl h13 ?_
  refine x_const (pc := 10) (pc' := 11) (.int (nI 1)) rfl rfl rfl rfl ?_
  refine x_iaddN (pc := 11) (c := a + 1) rfl rfl ?_
  refine p_40_2 (pc := 12) rfl rfl ?_
  refine x_il1 (pc := 15) rfl rfl ?_
  refine x_ifN_eq (pc := 16) (t := 29) rfl rfl (by decide) (fun _ => ?_) (fun c => absurd c (by decide))
  refine x_al1 (pc := 29) rfl rfl ?_
  refine x_il1 (pc := 30) rfl rfl ?_
  refine x_k (pc := 31) rfl rfl rfl ⟨Nat.le_of_ble_eq_true rfl, Nat.le_of_ble_eq_true rfl, Nat.le_of_ble_eq_true rfl⟩ rfl (k_100 (I := va_up I 13 (nI (a + 1))) (A := A) (Z := Z) (a := a) ⟨hS0.1, hS0.2⟩ hL ha ?_)
  show mq 99 34 [some (.ref 40), some (.int t), some (.int (nI 0)), some (.int (nI a))] [.int (nI (if ltr Z a (Z.length - (a + 1)) (a + 1) = true then 1 else 0))] (hS n u (va_up I 13 (nI (a + 1))) A J B mk sn L xs X) _
  refine x_ifN_eq (pc := 34) (t := 41) rfl rfl (by split <;> omega) (fun c34 => ?_) (fun c34 => ?_)
  · have eL : ltr Z a (Z.length - (a + 1)) (a + 1) = false := ne_true (fun q => by rw [if_pos q] at c34; exact absurd c34 (by decide))
    have el : lo Z J a t 0 = false := by
      unfold lo
      rw [eL, Bool.or_false]
      rfl
    refine x_const (pc := 41) (pc' := 42) (.int (nI 0)) rfl rfl rfl rfl ?_
    refine x_ret (pc := 42) rfl rfl ?_
    rw [el] at kk
    exact kk
  · have eL : ltr Z a (Z.length - (a + 1)) (a + 1) = true := Decidable.byContradiction (fun q => c34 (if_neg q))
    have el : lo Z J a t 0 = true := by
      unfold lo
      rw [eL, Bool.or_true]
    refine x_const (pc := 37) (pc' := 38) (.int (nI 1)) rfl rfl rfl rfl ?_
    refine x_step (pc := 38) (pc' := 42) rfl rfl rfl rfl ?_
    refine x_ret (pc := 42) rfl rfl ?_
    rw [el] at kk
    exact kk
set_option maxRecDepth 100000 in
set_option maxHeartbeats 4000000 in
theorem k_99_1 {Z : List R5} {a : Nat} {t : Int32} (hS0 : SV I A Z) (hL : Z.length ≤ 512) (ha : a < Z.length) (h13 : I 13 = nI a) {Q : mO × mHp → Prop} (kk : Q (.inl (some (.int (nI (if lo Z J a t 1 = true then 1 else 0)))), hS n u (va_up I 13 (nI (a + 1))) A J B mk sn L xs X)) : mq 99 0 [some (.ref 40), some (.int t), some (.int (nI 1)), none] [] (hS n u I A J B mk sn L xs X) Q := by
  refine x_al1 (pc := 0) rfl rfl ?_
  refine g_40_2 (pc := 1) (v := nI a) rfl rfl h13 ?_
  refine x_is1 (pc := 4) (ml' := [some (.ref 40), some (.int t), some (.int (nI 1)), some (.int (nI a))]) rfl rfl ?_
  refine x_al1 (pc := 5) rfl rfl ?_
  refine x_step (pc := 6) (pc' := 7) (st' := [.ref 40, .ref 40]) rfl rfl rfl rfl ?_
  refine g_40_2 (pc := 7) (v := nI a) rfl rfl h13 ?_
  refine x_const (pc := 10) (pc' := 11) (.int (nI 1)) rfl rfl rfl rfl ?_
  refine x_iaddN (pc := 11) (c := a + 1) rfl rfl ?_
  refine p_40_2 (pc := 12) rfl rfl ?_
  refine x_il1 (pc := 15) rfl rfl ?_
  refine x_ifN_eq (pc := 16) (t := 29) rfl rfl (by decide) (fun c => absurd c (by decide)) (fun _ => ?_)
  refine x_il1 (pc := 19) rfl rfl ?_
  refine x_i2l (pc := 20) rfl rfl ?_
  refine x_al1 (pc := 21) rfl rfl ?_
  refine g_40_3 (pc := 22) rfl rfl ?_
  refine x_step (pc := 25) (pc' := 26) (st' := [.int (lg_cmp t.toInt64 J)]) rfl rfl rfl rfl ?_
  refine x_if_lt (pc := 26) (t := 37) rfl rfl rfl (fun c26 => ?_) (fun c26 => ?_)
  · have el : lo Z J a t 1 = true := by
      unfold lo
      rw [decide_eq_true (lg_lt.mp c26)]
      rfl
    refine x_const (pc := 37) (pc' := 38) (.int (nI 1)) rfl rfl rfl rfl ?_
    refine x_step (pc := 38) (pc' := 42) rfl rfl rfl rfl ?_
    refine x_ret (pc := 42) rfl rfl ?_
    rw [el] at kk
    exact kk
  · refine x_al1 (pc := 29) rfl rfl ?_
    refine x_il1 (pc := 30) rfl rfl ?_
    refine x_k (pc := 31) rfl rfl rfl ⟨Nat.le_of_ble_eq_true rfl, Nat.le_of_ble_eq_true rfl, Nat.le_of_ble_eq_true rfl⟩ rfl (k_100 (I := va_up I 13 (nI (a + 1))) (A := A) (Z := Z) (a := a) ⟨hS0.1, hS0.2⟩ hL ha ?_)
    show mq 99 34 [some (.ref 40), some (.int t), some (.int (nI 1)), some (.int (nI a))] [.int (nI (if ltr Z a (Z.length - (a + 1)) (a + 1) = true then 1 else 0))] (hS n u (va_up I 13 (nI (a + 1))) A J B mk sn L xs X) _
    refine x_ifN_eq (pc := 34) (t := 41) rfl rfl (by split <;> omega) (fun c34 => ?_) (fun c34 => ?_)
    · have eL : ltr Z a (Z.length - (a + 1)) (a + 1) = false := ne_true (fun q => by rw [if_pos q] at c34; exact absurd c34 (by decide))
      have el : lo Z J a t 1 = false := by
        unfold lo
        rw [eL, Bool.or_false]
        rw [decide_eq_false (fun q => c26 (lg_lt.mpr q)), Bool.and_false]
      refine x_const (pc := 41) (pc' := 42) (.int (nI 0)) rfl rfl rfl rfl ?_
      refine x_ret (pc := 42) rfl rfl ?_
      rw [el] at kk
      exact kk
    · have eL : ltr Z a (Z.length - (a + 1)) (a + 1) = true := Decidable.byContradiction (fun q => c34 (if_neg q))
      have el : lo Z J a t 1 = true := by
        unfold lo
        rw [eL, Bool.or_true]
      refine x_const (pc := 37) (pc' := 38) (.int (nI 1)) rfl rfl rfl rfl ?_
      refine x_step (pc := 38) (pc' := 42) rfl rfl rfl rfl ?_
      refine x_ret (pc := 42) rfl rfl ?_
      rw [el] at kk
      exact kk
set_option maxRecDepth 100000 in
set_option maxHeartbeats 4000000 in
theorem k_81_43 {c k m : Nat} (h25 : I 25 = nI c) (hc : c < 4) (h22 : I 22 = nI m) (hk : k < m) (hm : m ≤ 4) {Q : mO × mHp → Prop} (kk : ∀ I' A', Fr [25] I I' → Fr [15, 16, 17, 18, 19] A A' → I' 25 = nI (c + 1) → A' 15 = upd (A 15) c (A 10 k) → A' 16 = upd (A 16) c (A 11 k) → A' 17 = upd (A 17) c (A 12 k) → A' 18 = upd (A 18) c (A 13 k) → A' 19 = upd (A 19) c (A 14 k) → Q (.inl none, hS n u I' A' J B mk sn L xs X)) : mq 81 0 [some (.ref 43), some (.ref 6), some (.int (nI k))] [] (hS n u I A J B mk sn L xs X) Q := by
  refine x_il1 (pc := 0) rfl rfl ?_
  refine x_ifN_lt (pc := 1) (t := 47) rfl rfl (by omega) ?_
  refine x_il1 (pc := 4) rfl rfl ?_
  refine x_al1 (pc := 5) rfl rfl ?_
  refine g_6_5 (pc := 6) (v := nI m) rfl rfl h22 ?_
  refine x_cmpN_ge (pc := 9) (t := 47) rfl rfl (by omega) (by omega) (fun c9 => ?_) (fun c9 => ?_)
  · omega
  · refine x_al1 (pc := 12) rfl rfl ?_
    refine x_al1 (pc := 13) rfl rfl ?_
    refine g_6_0 (pc := 14) rfl rfl ?_
    refine x_il1 (pc := 17) rfl rfl ?_
    refine al_7 (pc := 18) (q := k) (v := (A 10) k) rfl rfl (by omega) rfl ?_
    refine x_al1 (pc := 19) rfl rfl ?_
    refine g_6_1 (pc := 20) rfl rfl ?_
    refine x_il1 (pc := 23) rfl rfl ?_
    refine al_8 (pc := 24) (q := k) (v := (A 11) k) rfl rfl (by omega) rfl ?_
    refine x_al1 (pc := 25) rfl rfl ?_
    refine g_6_2 (pc := 26) rfl rfl ?_
    refine x_il1 (pc := 29) rfl rfl ?_
    refine al_9 (pc := 30) (q := k) (v := (A 12) k) rfl rfl (by omega) rfl ?_
    refine x_al1 (pc := 31) rfl rfl ?_
    refine g_6_3 (pc := 32) rfl rfl ?_
    refine x_il1 (pc := 35) rfl rfl ?_
    refine al_10 (pc := 36) (q := k) (v := (A 13) k) rfl rfl (by omega) rfl ?_
    refine x_al1 (pc := 37) rfl rfl ?_
    refine g_6_4 (pc := 38) rfl rfl ?_
    refine x_il1 (pc := 41) rfl rfl ?_
    refine al_11 (pc := 42) (q := k) (v := (A 14) k) rfl rfl (by omega) rfl ?_
    refine x_k (pc := 43) rfl rfl rfl ⟨Nat.le_of_ble_eq_true rfl, Nat.le_of_ble_eq_true rfl, Nat.le_of_ble_eq_true rfl⟩ rfl (mq_k (c_12_43 (I := I) (A := A) (m := c) h25 hc _ _ _ _ _) ?_)
    show mq 81 46 [some (.ref 43), some (.ref 6), some (.int (nI k))] [.int 1] (hS n u (va_up I 25 (nI (c + 1))) (va_up (va_up (va_up (va_up (va_up A 15 (upd (A 15) c ((A 10) k))) 16 (upd (A 16) c ((A 11) k))) 17 (upd (A 17) c ((A 12) k))) 18 (upd (A 18) c ((A 13) k))) 19 (upd (A 19) c ((A 14) k))) J B mk sn L xs X) _
    refine x_step (pc := 46) (pc' := 47) (st' := []) rfl rfl rfl rfl ?_
    refine x_ret (pc := 47) rfl rfl ?_
    exact kk _ _ (Fr_u (Fr_refl _ _) (by decide)) (Fr_u (Fr_u (Fr_u (Fr_u (Fr_u (Fr_refl _ _) (by decide)) (by decide)) (by decide)) (by decide)) (by decide)) rfl rfl rfl rfl rfl rfl
theorem RB_fr {SI SA : List Nat} {I I' : Nat → Int32} {A A' : Nat → Nat → Int32} {b q : Nat} (h : RB I A D b q) (f : Fr SI I I') (g : Fr SA A A') (hi : 20 ∉ SI ∧ 21 ∉ SI ∧ 22 ∉ SI) (ha : 10 ∉ SA ∧ 11 ∉ SA ∧ 12 ∉ SA ∧ 13 ∉ SA ∧ 14 ∉ SA) : RB I' A' D b q := by
  refine ⟨(f 20 hi.1).trans h.1, (f 21 hi.2.1).trans h.2.1, (f 22 hi.2.2).trans h.2.2.1, fun k hk => ?_⟩
  rw [g 10 ha.1, g 11 ha.2.1, g 12 ha.2.2.1, g 13 ha.2.2.2.1, g 14 ha.2.2.2.2]
  exact h.2.2.2 k hk
set_option maxRecDepth 100000 in
set_option maxHeartbeats 4000000 in
theorem l_98 {Z : List R5} {a b q : Nat} {p s : Int32} (hm : bN D q ≤ 4) (hd : ∀ i, i < bN D q → dR D q i ≤ 1) (hL : Z.length ≤ 512) (ha : a + bN D q ≤ Z.length) {Q : mO × mHp → Prop} : ∀ (z k : Nat) {I : Nat → Int32} {A : Nat → Nat → Int32}, (k + z = bN D q) → (I 13 = nI (a + k)) → (BT 1 I A (kc (r5 D b q) (fun k => lo Z J (a + k) (tR D q k) (dR D q k)) k) p s) → (SV I A Z) → (RB I A D b q) → (∀ I' A', Fr [13, 25] I I' → Fr [15, 16, 17, 18, 19] A A' → I' 13 = nI (a + bN D q) → BT 1 I' A' (kc (r5 D b q) (fun k => lo Z J (a + k) (tR D q k) (dR D q k)) (bN D q)) p s → mq 98 90 [some (.ref 1), some (.ref 5), some (.ref 6), some (.int (nI (bN D q)))] [] (hS n u I' A' J B mk sn L xs X) Q) → mq 98 33 [some (.ref 1), some (.ref 5), some (.ref 6), some (.int (nI k))] [] (hS n u I A J B mk sn L xs X) Q := by
  intro z
  induction z with
  | zero =>
    intro k I A hz h13 hB hS0 hR kk
    refine x_il1 (pc := 33) rfl rfl ?_
    refine x_al1 (pc := 34) rfl rfl ?_
    refine g_6_5 (pc := 35) (v := nI (bN D q)) rfl rfl hR.2.2.1 ?_
    refine x_cmpN_ge (pc := 38) (t := 90) rfl rfl (by omega) (by omega) (fun c38 => ?_) (fun c38 => ?_)
    · have hk : k = bN D q := by omega
      rw [hk]
      rw [hk] at hB h13
      exact kk I A (Fr_refl _ _) (Fr_refl _ _) h13 hB
    · omega
  | succ z ih =>
    intro k I A hz h13 hB hS0 hR kk
    have hkl := kc_le (r5 D b q) (fun k => lo Z J (a + k) (tR D q k) (dR D q k)) k
    refine x_il1 (pc := 33) rfl rfl ?_
    refine x_al1 (pc := 34) rfl rfl ?_
    refine g_6_5 (pc := 35) (v := nI (bN D q)) rfl rfl hR.2.2.1 ?_
    refine x_cmpN_ge (pc := 38) (t := 90) rfl rfl (by omega) (by omega) (fun c38 => ?_) (fun c38 => ?_)
    · omega
    · refine x_al1 (pc := 41) rfl rfl ?_
      refine g_1_5 (pc := 42) rfl rfl ?_
      refine x_al1 (pc := 45) rfl rfl ?_
      refine g_6_1 (pc := 46) rfl rfl ?_
      refine x_il1 (pc := 49) rfl rfl ?_
      refine al_8 (pc := 50) (q := k) (v := tR D q k) rfl rfl (by omega) ((hR.2.2.2 k (by omega)).2.1) ?_
      refine x_al1 (pc := 51) rfl rfl ?_
      refine g_6_4 (pc := 52) rfl rfl ?_
      refine x_il1 (pc := 55) rfl rfl ?_
      refine al_11 (pc := 56) (q := k) (v := nI (dR D q k)) rfl rfl (by omega) ((hR.2.2.2 k (by omega)).2.2.2.2) ?_
      refine x_const (pc := 57) (pc' := 58) (.int (nI 1)) rfl rfl rfl rfl ?_
      refine x_cmpN_ne (pc := 58) (t := 65) rfl rfl (by have := hd k (by omega); omega) (by decide) (fun c58 => ?_) (fun c58 => ?_)
      · have e58 : ¬ dR D q k = 1 := c58
        refine x_const (pc := 65) (pc' := 66) (.int (nI 0)) rfl rfl rfl rfl ?_
        refine x_k (pc := 66) rfl rfl rfl ⟨Nat.le_of_ble_eq_true rfl, Nat.le_of_ble_eq_true rfl, Nat.le_of_ble_eq_true rfl⟩ rfl (k_99_0 (I := I) (A := A) (Z := Z) (a := a + k) (t := tR D q k) hS0 hL (by omega) h13 ?_)
        show mq 98 69 [some (.ref 1), some (.ref 5), some (.ref 6), some (.int (nI k))] [.int (nI (if lo Z J (a + k) (tR D q k) 0 = true then 1 else 0))] (hS n u (va_up I 13 (nI (a + k + 1))) A J B mk sn L xs X) _
        refine x_ifN_ne (pc := 69) (t := 84) rfl rfl (by split <;> omega) (fun c69 => ?_) (fun c69 => ?_)
        · refine x_iincN (pc := 84) (c := 1) (ml' := [some (.ref 1), some (.ref 5), some (.ref 6), some (.int (nI (k + 1)))]) rfl rfl rfl rfl ?_
          refine x_step (pc := 87) (pc' := 33) rfl rfl rfl rfl ?_
          have ed : (fun k => lo Z J (a + k) (tR D q k) (dR D q k)) k = lo Z J (a + k) (tR D q k) 0 := by
            show lo Z J (a + k) (tR D q k) (dR D q k) = _
            unfold lo
            rw [decide_eq_false e58]
            rfl
          have ek : (fun k => lo Z J (a + k) (tR D q k) (dR D q k)) k = true := by
            rw [ed]
            exact Decidable.byContradiction (fun q => c69 (if_neg q))
          have ev : kc (r5 D b q) (fun k => lo Z J (a + k) (tR D q k) (dR D q k)) (k + 1) = kc (r5 D b q) (fun k => lo Z J (a + k) (tR D q k) (dR D q k)) k := by
            show (if (fun k => lo Z J (a + k) (tR D q k) (dR D q k)) k = true then _ else _) = _
            rw [if_pos ek]
          refine ih (k + 1) (I := va_up I 13 (nI (a + k + 1))) (A := A) (by omega) rfl ?_ (SV_fr hS0 (Fr_up I 13 _) (Fr_refl [] A) (by decide) (by decide)) (RB_fr hR (Fr_up I 13 _) (Fr_refl [] A) (by decide) (by decide)) (fun I2 A2 f2 g2 x2 b2 => kk I2 A2 (Fr_cons (Fr_u (Fr_refl _ _) (by decide)) f2 (by decide)) g2 x2 b2)
          rw [ev]
          exact BT_fr2 hB (Fr_up I 13 _) (Fr_refl [] A) (by decide) (by decide)
        · refine x_al1 (pc := 72) rfl rfl ?_
          refine g_1_6 (pc := 73) rfl rfl ?_
          refine g_42_0 (pc := 76) rfl rfl ?_
          refine x_al1 (pc := 79) rfl rfl ?_
          refine x_il1 (pc := 80) rfl rfl ?_
          refine x_k (pc := 81) rfl rfl rfl ⟨Nat.le_of_ble_eq_true rfl, Nat.le_of_ble_eq_true rfl, Nat.le_of_ble_eq_true rfl⟩ rfl (k_81_43 (I := va_up I 13 (nI (a + k + 1))) (A := A) (c := (kc (r5 D b q) (fun k => lo Z J (a + k) (tR D q k) (dR D q k)) k).length) (k := k) (m := bN D q) hB.2.2.1 (by omega) hR.2.2.1 (by omega) hm (fun I1 A1 f1 g1 x1 y0 y1 y2 y3 y4 => ?_))
          show mq 98 84 [some (.ref 1), some (.ref 5), some (.ref 6), some (.int (nI k))] [] (hS n u I1 A1 J B mk sn L xs X) _
          refine x_iincN (pc := 84) (c := 1) (ml' := [some (.ref 1), some (.ref 5), some (.ref 6), some (.int (nI (k + 1)))]) rfl rfl rfl rfl ?_
          refine x_step (pc := 87) (pc' := 33) rfl rfl rfl rfl ?_
          have ed : (fun k => lo Z J (a + k) (tR D q k) (dR D q k)) k = lo Z J (a + k) (tR D q k) 0 := by
            show lo Z J (a + k) (tR D q k) (dR D q k) = _
            unfold lo
            rw [decide_eq_false e58]
            rfl
          have ek : (fun k => lo Z J (a + k) (tR D q k) (dR D q k)) k = false := by
            rw [ed]
            exact ne_true (fun q => by rw [if_pos q] at c69; exact absurd c69 (by decide))
          have ev : kc (r5 D b q) (fun k => lo Z J (a + k) (tR D q k) (dR D q k)) (k + 1) = kc (r5 D b q) (fun k => lo Z J (a + k) (tR D q k) (dR D q k)) k ++ [r5 D b q k] := by
            show (if (fun k => lo Z J (a + k) (tR D q k) (dR D q k)) k = true then _ else _) = _
            rw [if_neg (by rw [ek]; decide)]
          have hr := hR.2.2.2 k (by omega)
          refine ih (k + 1) (I := I1) (A := A1) (by omega) ((f1 13 (by decide)).trans rfl) ?_ (SV_fr hS0 (show Fr [13, 25] I I1 from (Fr_cons (Fr_u (Fr_refl _ _) (by decide)) f1 (by decide))) g1 (by decide) (by decide)) (RB_fr hR (show Fr [13, 25] I I1 from (Fr_cons (Fr_u (Fr_refl _ _) (by decide)) f1 (by decide))) g1 (by decide) (by decide)) (fun I2 A2 f2 g2 x2 b2 => kk I2 A2 (Fr_cons (Fr_cons (Fr_u (Fr_refl _ _) (by decide)) f1 (by decide)) f2 (by decide)) (Fr_cons g1 g2 (by decide)) x2 b2)
          rw [ev]
          refine BT_s (I := I) (A := A) hB ((f1 23 (by decide)).trans rfl) ((f1 24 (by decide)).trans rfl) x1 ?_ ?_ ?_ ?_ ?_
          · exact y0.trans (by rw [hr.1]; rfl)
          · exact y1.trans (by rw [hr.2.1]; rfl)
          · exact y2.trans (by rw [hr.2.2.1]; rfl)
          · exact y3.trans (by rw [hr.2.2.2.1]; rfl)
          · exact y4.trans (by rw [hr.2.2.2.2]; rfl)
      · have e58 : dR D q k = 1 := c58
        refine x_const (pc := 61) (pc' := 62) (.int (nI 1)) rfl rfl rfl rfl ?_
        refine x_step (pc := 62) (pc' := 66) rfl rfl rfl rfl ?_
        refine x_k (pc := 66) rfl rfl rfl ⟨Nat.le_of_ble_eq_true rfl, Nat.le_of_ble_eq_true rfl, Nat.le_of_ble_eq_true rfl⟩ rfl (k_99_1 (I := I) (A := A) (Z := Z) (a := a + k) (t := tR D q k) hS0 hL (by omega) h13 ?_)
        show mq 98 69 [some (.ref 1), some (.ref 5), some (.ref 6), some (.int (nI k))] [.int (nI (if lo Z J (a + k) (tR D q k) 1 = true then 1 else 0))] (hS n u (va_up I 13 (nI (a + k + 1))) A J B mk sn L xs X) _
        refine x_ifN_ne (pc := 69) (t := 84) rfl rfl (by split <;> omega) (fun c69 => ?_) (fun c69 => ?_)
        · refine x_iincN (pc := 84) (c := 1) (ml' := [some (.ref 1), some (.ref 5), some (.ref 6), some (.int (nI (k + 1)))]) rfl rfl rfl rfl ?_
          refine x_step (pc := 87) (pc' := 33) rfl rfl rfl rfl ?_
          have ed : (fun k => lo Z J (a + k) (tR D q k) (dR D q k)) k = lo Z J (a + k) (tR D q k) 1 := by
            show lo Z J (a + k) (tR D q k) (dR D q k) = _
            unfold lo
            rw [e58]
          have ek : (fun k => lo Z J (a + k) (tR D q k) (dR D q k)) k = true := by
            rw [ed]
            exact Decidable.byContradiction (fun q => c69 (if_neg q))
          have ev : kc (r5 D b q) (fun k => lo Z J (a + k) (tR D q k) (dR D q k)) (k + 1) = kc (r5 D b q) (fun k => lo Z J (a + k) (tR D q k) (dR D q k)) k := by
            show (if (fun k => lo Z J (a + k) (tR D q k) (dR D q k)) k = true then _ else _) = _
            rw [if_pos ek]
          refine ih (k + 1) (I := va_up I 13 (nI (a + k + 1))) (A := A) (by omega) rfl ?_ (SV_fr hS0 (Fr_up I 13 _) (Fr_refl [] A) (by decide) (by decide)) (RB_fr hR (Fr_up I 13 _) (Fr_refl [] A) (by decide) (by decide)) (fun I2 A2 f2 g2 x2 b2 => kk I2 A2 (Fr_cons (Fr_u (Fr_refl _ _) (by decide)) f2 (by decide)) g2 x2 b2)
          rw [ev]
          exact BT_fr2 hB (Fr_up I 13 _) (Fr_refl [] A) (by decide) (by decide)
        · refine x_al1 (pc := 72) rfl rfl ?_
          refine g_1_6 (pc := 73) rfl rfl ?_
          refine g_42_0 (pc := 76) rfl rfl ?_
          refine x_al1 (pc := 79) rfl rfl ?_
          refine x_il1 (pc := 80) rfl rfl ?_
          refine x_k (pc := 81) rfl rfl rfl ⟨Nat.le_of_ble_eq_true rfl, Nat.le_of_ble_eq_true rfl, Nat.le_of_ble_eq_true rfl⟩ rfl (k_81_43 (I := va_up I 13 (nI (a + k + 1))) (A := A) (c := (kc (r5 D b q) (fun k => lo Z J (a + k) (tR D q k) (dR D q k)) k).length) (k := k) (m := bN D q) hB.2.2.1 (by omega) hR.2.2.1 (by omega) hm (fun I1 A1 f1 g1 x1 y0 y1 y2 y3 y4 => ?_))
          show mq 98 84 [some (.ref 1), some (.ref 5), some (.ref 6), some (.int (nI k))] [] (hS n u I1 A1 J B mk sn L xs X) _
          refine x_iincN (pc := 84) (c := 1) (ml' := [some (.ref 1), some (.ref 5), some (.ref 6), some (.int (nI (k + 1)))]) rfl rfl rfl rfl ?_
          refine x_step (pc := 87) (pc' := 33) rfl rfl rfl rfl ?_
          have ed : (fun k => lo Z J (a + k) (tR D q k) (dR D q k)) k = lo Z J (a + k) (tR D q k) 1 := by
            show lo Z J (a + k) (tR D q k) (dR D q k) = _
            unfold lo
            rw [e58]
          have ek : (fun k => lo Z J (a + k) (tR D q k) (dR D q k)) k = false := by
            rw [ed]
            exact ne_true (fun q => by rw [if_pos q] at c69; exact absurd c69 (by decide))
          have ev : kc (r5 D b q) (fun k => lo Z J (a + k) (tR D q k) (dR D q k)) (k + 1) = kc (r5 D b q) (fun k => lo Z J (a + k) (tR D q k) (dR D q k)) k ++ [r5 D b q k] := by
            show (if (fun k => lo Z J (a + k) (tR D q k) (dR D q k)) k = true then _ else _) = _
            rw [if_neg (by rw [ek]; decide)]
          have hr := hR.2.2.2 k (by omega)
          refine ih (k + 1) (I := I1) (A := A1) (by omega) ((f1 13 (by decide)).trans rfl) ?_ (SV_fr hS0 (show Fr [13, 25] I I1 from (Fr_cons (Fr_u (Fr_refl _ _) (by decide)) f1 (by decide))) g1 (by decide) (by decide)) (RB_fr hR (show Fr [13, 25] I I1 from (Fr_cons (Fr_u (Fr_refl _ _) (by decide)) f1 (by decide))) g1 (by decide) (by decide)) (fun I2 A2 f2 g2 x2 b2 => kk I2 A2 (Fr_cons (Fr_cons (Fr_u (Fr_refl _ _) (by decide)) f1 (by decide)) f2 (by decide)) (Fr_cons g1 g2 (by decide)) x2 b2)
          rw [ev]
          refine BT_s (I := I) (A := A) hB ((f1 23 (by decide)).trans rfl) ((f1 24 (by decide)).trans rfl) x1 ?_ ?_ ?_ ?_ ?_
          · exact y0.trans (by rw [hr.1]; rfl)
          · exact y1.trans (by rw [hr.2.1]; rfl)
          · exact y2.trans (by rw [hr.2.2.1]; rfl)
          · exact y3.trans (by rw [hr.2.2.2.1]; rfl)
          · exact y4.trans (by rw [hr.2.2.2.2]; rfl)
set_option maxRecDepth 100000 in
set_option maxHeartbeats 4000000 in
theorem k_98 {Z : List R5} {a b q : Nat} (hm : bN D q ≤ 4) (hd : ∀ i, i < bN D q → dR D q i ≤ 1) (hL : Z.length ≤ 512) (ha : a + bN D q ≤ Z.length) (h13 : I 13 = nI a) (hS0 : SV I A Z) (hR : RB I A D b q) {Q : mO × mHp → Prop} (kk : ∀ I' A', Fr [13, 23, 24, 25] I I' → Fr [15, 16, 17, 18, 19] A A' → I' 13 = nI (a + bN D q) → BT 1 I' A' (kc (r5 D b q) (fun k => lo Z J (a + k) (tR D q k) (dR D q k)) (bN D q)) (nI (bP D q)) (bS D q) → Q (.inl (some (.int (nI (bN D q - (kc (r5 D b q) (fun k => lo Z J (a + k) (tR D q k) (dR D q k)) (bN D q)).length)))), hS n u I' A' J B mk sn L xs X)) : mq 98 0 [some (.ref 1), some (.ref 5), none, none] [] (hS n u I A J B mk sn L xs X) Q := by
  refine x_al1 (pc := 0) rfl rfl ?_
  refine g_5_0 (pc := 1) rfl rfl ?_
  refine x_as1 (pc := 4) (ml' := [some (.ref 1), some (.ref 5), some (.ref 6), none]) rfl rfl ?_
  refine x_al1 (pc := 5) rfl rfl ?_
  refine g_1_6 (pc := 6) rfl rfl ?_
  refine g_42_0 (pc := 9) rfl rfl ?_
  refine x_const (pc := 12) (pc' := 13) (.int (nI 0)) rfl rfl rfl rfl ?_
  refine p_43_5 (pc := 13) rfl rfl ?_
  refine x_al1 (pc := 16) rfl rfl ?_
  refine g_1_6 (pc := 17) rfl rfl ?_
  refine x_al1 (pc := 20) rfl rfl ?_
  refine g_5_1 (pc := 21) (v := nI (bP D q)) rfl rfl hR.1 ?_
  refine x_al1 (pc := 24) rfl rfl ?_
  refine g_5_2 (pc := 25) (v := bS D q) rfl rfl hR.2.1 ?_
  refine x_k (pc := 28) rfl rfl rfl ⟨Nat.le_of_ble_eq_true rfl, Nat.le_of_ble_eq_true rfl, Nat.le_of_ble_eq_true rfl⟩ rfl (mq_k (c_43_1 (I := va_up I 25 (nI 0)) (A := A) _ _) ?_)
  show mq 98 31 [some (.ref 1), some (.ref 5), some (.ref 6), none] [] (hS n u (va_up (va_up (va_up I 25 (nI 0)) 23 (nI (bP D q))) 24 (bS D q)) A J B mk sn L xs X) _
  refine x_const (pc := 31) (pc' := 32) (.int (nI 0)) rfl rfl rfl rfl ?_
  refine x_is1 (pc := 32) (ml' := [some (.ref 1), some (.ref 5), some (.ref 6), some (.int (nI 0))]) rfl rfl ?_
  refine l_98 (I := va_up (va_up (va_up I 25 (nI 0)) 23 (nI (bP D q))) 24 (bS D q)) (A := A) (Z := Z) (a := a) (b := b) (q := q) (p := nI (bP D q)) (s := bS D q) hm hd hL ha (bN D q) 0 (Nat.zero_add _) h13 ⟨rfl, rfl, rfl, fun k hk => absurd hk (Nat.not_lt_zero k)⟩ (SV_fr hS0 (show Fr [23, 24, 25] I (va_up (va_up (va_up I 25 (nI 0)) 23 (nI (bP D q))) 24 (bS D q)) from (Fr_u (Fr_u (Fr_u (Fr_refl _ I) (by decide)) (by decide)) (by decide))) (Fr_refl [] A) (by decide) (by decide)) (RB_fr hR (show Fr [23, 24, 25] I (va_up (va_up (va_up I 25 (nI 0)) 23 (nI (bP D q))) 24 (bS D q)) from (Fr_u (Fr_u (Fr_u (Fr_refl _ _) (by decide)) (by decide)) (by decide))) (Fr_refl [] A) (by decide) (by decide)) (fun I1 A1 f1 g1 x1 b1 => ?_)
  have hkl := kc_le (r5 D b q) (fun k => lo Z J (a + k) (tR D q k) (dR D q k)) (bN D q)
  refine x_al1 (pc := 90) rfl rfl ?_
  refine g_6_5 (pc := 91) (v := nI (bN D q)) rfl rfl ((f1 22 (by decide)).trans hR.2.2.1) ?_
  refine x_al1 (pc := 94) rfl rfl ?_
  refine g_1_6 (pc := 95) rfl rfl ?_
  refine g_42_0 (pc := 98) rfl rfl ?_
  refine g_43_5 (pc := 101) (v := nI ((kc (r5 D b q) (fun k => lo Z J (a + k) (tR D q k) (dR D q k)) (bN D q)).length)) rfl rfl b1.2.2.1 ?_
  refine x_isubN (pc := 104) rfl ((by omega)) ?_
  refine x_ret (pc := 105) rfl rfl ?_
  exact kk I1 A1 (Fr_cons (Fr_u (Fr_u (Fr_u (Fr_refl _ _) (by decide)) (by decide)) (by decide)) f1 (by decide)) (Fr_cons (Fr_refl _ _) g1 (by decide)) x1 b1
end S63
