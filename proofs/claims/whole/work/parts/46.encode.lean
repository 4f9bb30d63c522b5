/-! A batch as bytes: the class. -/
theorem gB0_set {l : List Nat} {p v j : Nat} (hp : p < l.length) : gB0 (l.set p v) j = if j = p then v else gB0 l j := by
  unfold gB0
  by_cases h : j = p
  · subst h
    rw [if_pos rfl]
    simp [hp]
  · rw [if_neg h]
    have h' : ¬ p = j := fun q => h q.symm
    simp [List.getElem?_set, h']
theorem Pg_set {r a N : Nat} {I I' : Nat → Int32} {A A' : Nat → Nat → Int32} {l : List Nat} {p v : Nat} (h : Pg r a N I A l) (hp : p < l.length) (hI : I' r = I r) (hA : A' a = if p < N then upd (A a) p (nI v) else A a) : Pg r a N I' A' (l.set p v) := by
  refine ⟨by rw [hI, h.1]; simp, fun j hj => ?_⟩
  rw [hA, gB0_set hp]
  by_cases hpN : p < N
  · rw [if_pos hpN]
    by_cases hjp : j = p
    · subst hjp
      rw [pk_us, if_pos rfl]
    · rw [pk_un hjp, if_neg hjp, h.2 j hj]
  · rw [if_neg hpN, if_neg (by omega), h.2 j hj]
/-- a record as bytes, behind the first one f; a batch's bytes -/
def eR (f r : R5) : List Nat := vE 4 (uN (r.1 - f.1)) ++ (vE 4 (zN (r.2.1 - f.2.1)) ++ (vE 4 (zN r.2.2.1) ++ (b8 r.2.2.2.2 :: (if r.2.2.2.2 = 0 then vE 4 (zN r.2.2.2.1) else []))))
def eRs (f : R5) : List R5 → List Nat
  | [] => []
  | r :: t => eR f r ++ eRs f t
def eCn (b p s : Int32) (l : List R5) : List Nat := vE 4 (uN ((gR l 0).1 - b)) ++ (vE 4 (zN (gR l 0).2.1) ++ (b8 p :: (vE 4 (uN s) ++ (l.length % 256 :: eRs (gR l 0) l))))
def eBt (b p s : Int32) (l : List R5) : List Nat := (eCn b p s l).length % 256 :: eCn b p s l
theorem eR_len (f r : R5) : (eR f r).length ≤ 21 := by
  have h1 := vE_len 4 (uN (r.1 - f.1))
  have h2 := vE_len 4 (zN (r.2.1 - f.2.1))
  have h3 := vE_len 4 (zN r.2.2.1)
  have h4 := vE_len 4 (zN r.2.2.2.1)
  unfold eR
  split
  · simp
    omega
  · simp
    omega
theorem eRs_len (f : R5) : ∀ l, (eRs f l).length ≤ 21 * l.length
  | [] => Nat.le_refl 0
  | r :: t => by
    have h1 := eR_len f r
    have h2 := eRs_len f t
    simp [eRs]
    omega
theorem eCn_len (b p s : Int32) (l : List R5) : (eCn b p s l).length ≤ 17 + 21 * l.length := by
  have h1 := vE_len 4 (uN ((gR l 0).1 - b))
  have h2 := vE_len 4 (zN (gR l 0).2.1)
  have h3 := vE_len 4 (uN s)
  have h4 := eRs_len (gR l 0) l
  unfold eCn
  simp
  omega
theorem eRs_snoc (f r : R5) (l : List R5) : eRs f (l ++ [r]) = eRs f l ++ eR f r := by
  induction l with
  | nil =>
    show eR f r ++ [] = [] ++ eR f r
    rw [List.append_nil, List.nil_append]
  | cons x t ih =>
    show eR f x ++ eRs f (t ++ [r]) = (eR f x ++ eRs f t) ++ eR f r
    rw [ih, List.append_assoc]
theorem take_snoc (l : List R5) {k : Nat} (h : k < l.length) : l.take (k + 1) = l.take k ++ [gR l k] := by
  rw [List.take_succ_eq_append_getElem h]
  simp [gR, h]
/-- the batch b (registers and arrays) holds the records l, producer p, sequence s -/
def BT (b : Nat) (I : Nat → Int32) (A : Nat → Nat → Int32) (l : List R5) (p s : Int32) : Prop := I (20 + 3 * b) = p ∧ I (21 + 3 * b) = s ∧ I (22 + 3 * b) = nI l.length ∧ ∀ k, k < l.length → A (10 + 5 * b) k = (gR l k).1 ∧ A (11 + 5 * b) k = (gR l k).2.1 ∧ A (12 + 5 * b) k = (gR l k).2.2.1 ∧ A (13 + 5 * b) k = (gR l k).2.2.2.1 ∧ A (14 + 5 * b) k = (gR l k).2.2.2.2
section S46
variable {n u : Nat} {I : Nat → Int32} {A : Nat → Nat → Int32} {J : Int64} {B : Nat → Int64} {mk sn L : Nat} {xs : Nat → Int32} {X : Nat → mC} {D : Nat → Nat} 
set_option maxRecDepth 100000 in
set_option maxHeartbeats 4000000 in
theorem k_70_1 {p m : Nat} {l : List Nat} (hP : Pg 14 3 128 I A l) (hp : p < l.length) (hl : l.length < 2000) (hm : m < 2 ^ 32) {Q : mO × mHp → Prop} (kk : ∀ I' A', Fr [] I I' → Fr [3] A A' → Pg 14 3 128 I' A' (l.set p (m % 256)) → Q (.inl none, hS n u I' A' J B mk sn L xs X)) : mq 70 0 [some (.ref 49), some (.int (nI p)), some (.int (nI m)), some (.int (nI 1)), none] [] (hS n u I A J B mk sn L xs X) Q := by
  refine x_const (pc := 0) (pc' := 1) (.int (nI 0)) rfl rfl rfl rfl ?_
  refine x_is2 (pc := 1) (ml' := [some (.ref 49), some (.int (nI p)), some (.int (nI m)), some (.int (nI 1)), some (.int (nI 0))]) rfl rfl ?_
  refine x_il2 (pc := 3) rfl rfl ?_
  refine x_il1 (pc := 5) rfl rfl ?_
  refine x_cmpN_ge (pc := 6) (t := 58) rfl rfl (by decide) (by decide) (fun c => absurd c (by decide)) (fun _ => ?_)
  refine x_il1 (pc := 9) rfl rfl ?_
  refine x_il2 (pc := 10) rfl rfl ?_
  refine x_iaddN (pc := 12) (c := p + 0) rfl rfl ?_
  refine x_ifN_lt (pc := 13) (t := 52) rfl rfl (by omega) ?_
  refine x_il1 (pc := 16) rfl rfl ?_
  refine x_il2 (pc := 17) rfl rfl ?_
  refine x_iaddN (pc := 19) (c := p + 0) rfl rfl ?_
  refine x_al1 (pc := 20) rfl rfl ?_
  refine g_49_0 (pc := 21) rfl rfl ?_
  refine ln_50 (pc := 24) rfl ?_
  refine x_cmpN_ge (pc := 25) (t := 52) rfl rfl (by omega) (by omega) (fun c25 => ?_) (fun c25 => ?_)
  · refine x_iincN (pc := 52) (c := 1) (ml' := [some (.ref 49), some (.int (nI p)), some (.int (nI m)), some (.int (nI 1)), some (.int (nI 1))]) rfl rfl rfl rfl ?_
    refine x_step (pc := 55) (pc' := 3) rfl rfl rfl rfl ?_
    refine x_il2 (pc := 3) rfl rfl ?_
    refine x_il1 (pc := 5) rfl rfl ?_
    refine x_cmpN_ge (pc := 6) (t := 58) rfl rfl (by decide) (by decide) (fun _ => ?_) (fun c => absurd c (by decide))
    refine x_ret (pc := 58) rfl rfl ?_
    exact kk _ _ (Fr_refl _ _) (Fr_refl _ _) (Pg_set hP hp rfl (if_neg (by omega)).symm)
  · refine x_al1 (pc := 28) rfl rfl ?_
    refine g_49_0 (pc := 29) rfl rfl ?_
    refine x_il1 (pc := 32) rfl rfl ?_
    refine x_il2 (pc := 33) rfl rfl ?_
    refine x_iaddN (pc := 35) (c := p + 0) rfl rfl ?_
    refine x_il1 (pc := 36) rfl rfl ?_
    refine x_const (pc := 37) (pc' := 39) (.int (nI 8)) rfl rfl rfl rfl ?_
    refine x_il1 (pc := 39) rfl rfl ?_
    refine x_const (pc := 40) (pc' := 41) (.int (nI 1)) rfl rfl rfl rfl ?_
    refine x_isubV (pc := 41) (v := nI 0) rfl (by decide) ?_
    refine x_il2 (pc := 42) rfl rfl ?_
    refine x_isubV (pc := 44) (v := nI 0) rfl (by decide) ?_
    refine x_imulN (pc := 45) (c := 0) rfl rfl ?_
    refine x_iushrV (pc := 46) (v := nI m) rfl ((pk_ushrN hm _ 0 (by decide)).trans (congrArg nI (Nat.div_one m))) ?_
    refine x_const (pc := 47) (pc' := 50) (.int (nI 255)) rfl rfl rfl rfl ?_
    refine x_iandV (pc := 50) (v := nI (m % 256)) rfl (pk_andN hm 8 (by decide)) ?_
    refine as_50 (pc := 51) (q := p) rfl (congrArg nI (Nat.add_zero p)) (by omega) ?_
    refine x_iincN (pc := 52) (c := 1) (ml' := [some (.ref 49), some (.int (nI p)), some (.int (nI m)), some (.int (nI 1)), some (.int (nI 1))]) rfl rfl rfl rfl ?_
    refine x_step (pc := 55) (pc' := 3) rfl rfl rfl rfl ?_
    refine x_il2 (pc := 3) rfl rfl ?_
    refine x_il1 (pc := 5) rfl rfl ?_
    refine x_cmpN_ge (pc := 6) (t := 58) rfl rfl (by decide) (by decide) (fun _ => ?_) (fun c => absurd c (by decide))
    refine x_ret (pc := 58) rfl rfl ?_
    exact kk _ _ (Fr_refl _ _) (Fr_u (Fr_refl _ _) (by decide)) (Pg_set hP hp rfl (if_pos (by omega)).symm)
set_option maxRecDepth 100000 in
set_option maxHeartbeats 4000000 in
theorem k_70_2 {m : Nat} {l : List Nat} (hP : Pg 14 3 128 I A l) (hl : 2 ≤ l.length) (hm : m < 2 ^ 32) {Q : mO × mHp → Prop} (kk : ∀ I' A', Fr [] I I' → Fr [3] A A' → Pg 14 3 128 I' A' ((l.set 0 (m / 2 ^ 8 % 256)).set 1 (m % 256)) → Q (.inl none, hS n u I' A' J B mk sn L xs X)) : mq 70 0 [some (.ref 49), some (.int (nI 0)), some (.int (nI m)), some (.int (nI 2)), none] [] (hS n u I A J B mk sn L xs X) Q := by
  refine x_const (pc := 0) (pc' := 1) (.int (nI 0)) rfl rfl rfl rfl ?_
  refine x_is2 (pc := 1) (ml' := [some (.ref 49), some (.int (nI 0)), some (.int (nI m)), some (.int (nI 2)), some (.int (nI 0))]) rfl rfl ?_
  refine x_il2 (pc := 3) rfl rfl ?_
  refine x_il1 (pc := 5) rfl rfl ?_
  refine x_cmpN_ge (pc := 6) (t := 58) rfl rfl (by decide) (by decide) (fun c => absurd c (by decide)) (fun _ => ?_)
  refine x_il1 (pc := 9) rfl rfl ?_
  refine x_il2 (pc := 10) rfl rfl ?_
  refine x_iaddN (pc := 12) (c := 0) rfl rfl ?_
  refine x_ifN_lt (pc := 13) (t := 52) rfl rfl (by omega) ?_
  refine x_il1 (pc := 16) rfl rfl ?_
  refine x_il2 (pc := 17) rfl rfl ?_
  refine x_iaddN (pc := 19) (c := 0) rfl rfl ?_
  refine x_al1 (pc := 20) rfl rfl ?_
  refine g_49_0 (pc := 21) rfl rfl ?_
  refine ln_50 (pc := 24) rfl ?_
  refine x_cmpN_ge (pc := 25) (t := 52) rfl rfl (by decide) (by decide) (fun c => absurd c (by decide)) (fun _ => ?_)
  refine x_al1 (pc := 28) rfl rfl ?_
  refine g_49_0 (pc := 29) rfl rfl ?_
  refine x_il1 (pc := 32) rfl rfl ?_
  refine x_il2 (pc := 33) rfl rfl ?_
  refine x_iaddN (pc := 35) (c := 0) rfl rfl ?_
  refine x_il1 (pc := 36) rfl rfl ?_
  refine x_const (pc := 37) (pc' := 39) (.int (nI 8)) rfl rfl rfl rfl ?_
  refine x_il1 (pc := 39) rfl rfl ?_
  refine x_const (pc := 40) (pc' := 41) (.int (nI 1)) rfl rfl rfl rfl ?_
  refine x_isubV (pc := 41) (v := nI 1) rfl (by decide) ?_
  refine x_il2 (pc := 42) rfl rfl ?_
  refine x_isubV (pc := 44) (v := nI 1) rfl (by decide) ?_
  refine x_imulN (pc := 45) (c := 8) rfl rfl ?_
  refine x_iushrV (pc := 46) (v := nI (m / 2 ^ 8)) rfl (pk_ushrN hm _ 8 (by decide)) ?_
  refine x_const (pc := 47) (pc' := 50) (.int (nI 255)) rfl rfl rfl rfl ?_
  refine x_iandV (pc := 50) (v := nI (m / 2 ^ 8 % 256)) rfl (pk_andN (by omega) 8 (by decide)) ?_
  refine as_50 (pc := 51) (q := 0) rfl rfl (by omega) ?_
  refine x_iincN (pc := 52) (c := 1) (ml' := [some (.ref 49), some (.int (nI 0)), some (.int (nI m)), some (.int (nI 2)), some (.int (nI 1))]) rfl rfl rfl rfl ?_
  refine x_step (pc := 55) (pc' := 3) rfl rfl rfl rfl ?_
  refine x_il2 (pc := 3) rfl rfl ?_
  refine x_il1 (pc := 5) rfl rfl ?_
  refine x_cmpN_ge (pc := 6) (t := 58) rfl rfl (by decide) (by decide) (fun c => absurd c (by decide)) (fun _ => ?_)
  refine x_il1 (pc := 9) rfl rfl ?_
  refine x_il2 (pc := 10) rfl rfl ?_
  refine x_iaddN (pc := 12) (c := 1) rfl rfl ?_
  refine x_ifN_lt (pc := 13) (t := 52) rfl rfl (by omega) ?_
  refine x_il1 (pc := 16) rfl rfl ?_
  refine x_il2 (pc := 17) rfl rfl ?_
  refine x_iaddN (pc := 19) (c := 1) rfl rfl ?_
  refine x_al1 (pc := 20) rfl rfl ?_
  refine g_49_0 (pc := 21) rfl rfl ?_
  refine ln_50 (pc := 24) rfl ?_
  refine x_cmpN_ge (pc := 25) (t := 52) rfl rfl (by decide) (by decide) (fun c => absurd c (by decide)) (fun _ => ?_)
  refine x_al1 (pc := 28) rfl rfl ?_
  refine g_49_0 (pc := 29) rfl rfl ?_
  refine x_il1 (pc := 32) rfl rfl ?_
  refine x_il2 (pc := 33) rfl rfl ?_
  refine x_iaddN (pc := 35) (c := 1) rfl rfl ?_
  refine x_il1 (pc := 36) rfl rfl ?_
  refine x_const (pc := 37) (pc' := 39) (.int (nI 8)) rfl rfl rfl rfl ?_
  refine x_il1 (pc := 39) rfl rfl ?_
  refine x_const (pc := 40) (pc' := 41) (.int (nI 1)) rfl rfl rfl rfl ?_
  refine x_isubV (pc := 41) (v := nI 1) rfl (by decide) ?_
  refine x_il2 (pc := 42) rfl rfl ?_
  refine x_isubV (pc := 44) (v := nI 0) rfl (by decide) ?_
  refine x_imulN (pc := 45) (c := 0) rfl rfl ?_
  refine x_iushrV (pc := 46) (v := nI m) rfl ((pk_ushrN hm _ 0 (by decide)).trans (congrArg nI (Nat.div_one m))) ?_
  refine x_const (pc := 47) (pc' := 50) (.int (nI 255)) rfl rfl rfl rfl ?_
  refine x_iandV (pc := 50) (v := nI (m % 256)) rfl (pk_andN (by omega) 8 (by decide)) ?_
  refine as_50 (pc := 51) (q := 1) rfl rfl (by omega) ?_
  refine x_iincN (pc := 52) (c := 1) (ml' := [some (.ref 49), some (.int (nI 0)), some (.int (nI m)), some (.int (nI 2)), some (.int (nI 2))]) rfl rfl rfl rfl ?_
  refine x_step (pc := 55) (pc' := 3) rfl rfl rfl rfl ?_
  refine x_il2 (pc := 3) rfl rfl ?_
  refine x_il1 (pc := 5) rfl rfl ?_
  refine x_cmpN_ge (pc := 6) (t := 58) rfl rfl (by decide) (by decide) (fun _ => ?_) (fun c => absurd c (by decide))
  refine x_ret (pc := 58) rfl rfl ?_
  exact kk _ _ (Fr_refl _ _) (Fr_u (Fr_u (Fr_refl _ _) (by decide)) (by decide)) (Pg_set (Pg_set (p := 0) (v := m / 2 ^ 8 % 256) (I' := I) (A' := va_up A 3 (upd (A 3) 0 (nI (m / 2 ^ 8 % 256)))) hP (by omega) rfl rfl) (by simp; omega) rfl rfl)
theorem BT_fr {b : Nat} {I I' : Nat → Int32} {A A' : Nat → Nat → Int32} {l : List R5} {p s : Int32} (h : BT b I A l p s) (f : Fr [14] I I') (g : Fr [3] A A') : BT b I' A' l p s := by
  refine ⟨(f _ (by simp; omega)).trans h.1, (f _ (by simp; omega)).trans h.2.1, (f _ (by simp; omega)).trans h.2.2.1, fun k hk => ?_⟩
  rw [g _ (by simp; omega), g _ (by simp; omega), g _ (by simp; omega), g _ (by simp; omega), g _ (by simp; omega)]
  exact h.2.2.2 k hk
set_option maxRecDepth 100000 in
set_option maxHeartbeats 4000000 in
theorem l_67_1 {bg : Nat} {ba p s : Int32} {l : List R5} (hl4 : l.length ≤ 4) {Q : mO × mHp → Prop} : ∀ (z k : Nat) (t : List Nat) {I : Nat → Int32} {A : Nat → Nat → Int32}, (k + z = l.length) → (BT 1 I A l p s) → (t.length + 21 * z < 1800) → (Pg 14 3 128 I A t) → (∀ I' A', Fr [14] I I' → Fr [3] A A' → Pg 14 3 128 I' A' (t ++ eRs (gR l 0) (l.drop k)) → mq 67 201 [some (.ref 42), some (.ref 49), some (.int ba), some (.int (nI bg)), some (.int (nI l.length))] [] (hS n u I' A' J B mk sn L xs X) Q) → mq 67 71 [some (.ref 42), some (.ref 49), some (.int ba), some (.int (nI bg)), some (.int (nI k))] [] (hS n u I A J B mk sn L xs X) Q := by
  intro z
  induction z with
  | zero =>
    intro k t I A hz hB hlt hP kk
    refine x_il2 (pc := 71) rfl rfl ?_
    refine x_al1 (pc := 73) rfl rfl ?_
    refine g_42_0 (pc := 74) rfl rfl ?_
    refine g_43_5 (pc := 77) (v := nI l.length) rfl rfl hB.2.2.1 ?_
    refine x_cmpN_ge (pc := 80) (t := 201) rfl rfl (by omega) (by omega) (fun c80 => ?_) (fun c80 => ?_)
    · have hk : k = l.length := by omega
      have e : t ++ eRs (gR l 0) (l.drop k) = t := by
        rw [hk, List.drop_length]
        exact List.append_nil t
      rw [e] at kk
      rw [hk]
      exact kk I A (Fr_refl _ _) (Fr_refl _ _) hP
    · omega
  | succ z ih =>
    intro k t I A hz hB hlt hP kk
    have hk : k < l.length := by omega
    refine x_il2 (pc := 71) rfl rfl ?_
    refine x_al1 (pc := 73) rfl rfl ?_
    refine g_42_0 (pc := 74) rfl rfl ?_
    refine g_43_5 (pc := 77) (v := nI l.length) rfl rfl hB.2.2.1 ?_
    refine x_cmpN_ge (pc := 80) (t := 201) rfl rfl (by omega) (by omega) (fun c80 => ?_) (fun c80 => ?_)
    · omega
    · refine x_al1 (pc := 83) rfl rfl ?_
      refine x_al1 (pc := 84) rfl rfl ?_
      refine g_42_0 (pc := 85) rfl rfl ?_
      refine g_43_0 (pc := 88) rfl rfl ?_
      refine x_il2 (pc := 91) rfl rfl ?_
      refine al_44 (pc := 93) (q := k) (v := (gR l k).1) rfl rfl (by omega) ((hB.2.2.2 k (by omega)).1) ?_
      refine x_al1 (pc := 94) rfl rfl ?_
      refine g_42_0 (pc := 95) rfl rfl ?_
      refine g_43_0 (pc := 98) rfl rfl ?_
      refine x_const (pc := 101) (pc' := 102) (.int (nI 0)) rfl rfl rfl rfl ?_
      refine al_44 (pc := 102) (q := 0) (v := (gR l 0).1) rfl rfl (by omega) ((hB.2.2.2 0 (by omega)).1) ?_
      refine x_isubV (pc := 103) (v := nI (uN (((gR l k).1) - ((gR l 0).1)))) rfl ((nI_uN _).symm) ?_
      refine x_k (pc := 104) rfl rfl rfl ⟨Nat.le_of_ble_eq_true rfl, Nat.le_of_ble_eq_true rfl, Nat.le_of_ble_eq_true rfl⟩ rfl (k_68_49 (I := I) (A := A) (m := uN (((gR l k).1) - ((gR l 0).1))) (l := t) hP (by omega) (uN_lt _) (fun I1 A1 f1 g1 h1 => ?_))
      show mq 67 107 [some (.ref 42), some (.ref 49), some (.int ba), some (.int (nI bg)), some (.int (nI k))] [] (hS n u I1 A1 J B mk sn L xs X) _
      obtain ⟨t1, ht1⟩ : ∃ x, x = t ++ vE 4 (uN (((gR l k).1) - ((gR l 0).1))) := ⟨_, rfl⟩
      rw [← ht1] at h1
      have hn1 : t1.length ≤ t.length + 5 := by rw [ht1]; have := vE_len 4 (uN (((gR l k).1) - ((gR l 0).1))); simp; omega
      refine x_al1 (pc := 107) rfl rfl ?_
      refine x_al1 (pc := 108) rfl rfl ?_
      refine g_42_0 (pc := 109) rfl rfl ?_
      refine g_43_1 (pc := 112) rfl rfl ?_
      refine x_il2 (pc := 115) rfl rfl ?_
      refine al_45 (pc := 117) (q := k) (v := (gR l k).2.1) rfl rfl (by omega) (show _ = _ from by rw [(show Fr [3] A A1 from (Fr_cons (Fr_refl _ _) g1 (by decide))) 16 (by decide)]; exact (hB.2.2.2 k (by omega)).2.1) ?_
      refine x_al1 (pc := 118) rfl rfl ?_
      refine g_42_0 (pc := 119) rfl rfl ?_
      refine g_43_1 (pc := 122) rfl rfl ?_
      refine x_const (pc := 125) (pc' := 126) (.int (nI 0)) rfl rfl rfl rfl ?_
      refine al_45 (pc := 126) (q := 0) (v := (gR l 0).2.1) rfl rfl (by omega) (show _ = _ from by rw [(show Fr [3] A A1 from (Fr_cons (Fr_refl _ _) g1 (by decide))) 16 (by decide)]; exact (hB.2.2.2 0 (by omega)).2.1) ?_
      refine x_isub (pc := 127) rfl rfl ?_
      refine x_k (pc := 128) rfl rfl rfl ⟨Nat.le_of_ble_eq_true rfl, Nat.le_of_ble_eq_true rfl, Nat.le_of_ble_eq_true rfl⟩ rfl (k_69 (I := I1) (A := A1) (x := (((gR l k).2.1) - ((gR l 0).2.1))) ?_)
      show mq 67 131 [some (.ref 42), some (.ref 49), some (.int ba), some (.int (nI bg)), some (.int (nI k))] [.int (nI (zN (((gR l k).2.1) - ((gR l 0).2.1)))), .ref 49] (hS n u I1 A1 J B mk sn L xs X) _
      refine x_k (pc := 131) rfl rfl rfl ⟨Nat.le_of_ble_eq_true rfl, Nat.le_of_ble_eq_true rfl, Nat.le_of_ble_eq_true rfl⟩ rfl (k_68_49 (I := I1) (A := A1) (m := zN (((gR l k).2.1) - ((gR l 0).2.1))) (l := t1) h1 (by omega) (uN_lt _) (fun I2 A2 f2 g2 h2 => ?_))
      show mq 67 134 [some (.ref 42), some (.ref 49), some (.int ba), some (.int (nI bg)), some (.int (nI k))] [] (hS n u I2 A2 J B mk sn L xs X) _
      obtain ⟨t2, ht2⟩ : ∃ x, x = t1 ++ vE 4 (zN (((gR l k).2.1) - ((gR l 0).2.1))) := ⟨_, rfl⟩
      rw [← ht2] at h2
      have hn2 : t2.length ≤ t1.length + 5 := by rw [ht2]; have := vE_len 4 (zN (((gR l k).2.1) - ((gR l 0).2.1))); simp; omega
      refine x_al1 (pc := 134) rfl rfl ?_
      refine x_al1 (pc := 135) rfl rfl ?_
      refine g_42_0 (pc := 136) rfl rfl ?_
      refine g_43_2 (pc := 139) rfl rfl ?_
      refine x_il2 (pc := 142) rfl rfl ?_
      refine al_46 (pc := 144) (q := k) (v := (gR l k).2.2.1) rfl rfl (by omega) (show _ = _ from by rw [(show Fr [3] A A2 from (Fr_cons (Fr_cons (Fr_refl _ _) g1 (by decide)) g2 (by decide))) 17 (by decide)]; exact (hB.2.2.2 k (by omega)).2.2.1) ?_
      refine x_k (pc := 145) rfl rfl rfl ⟨Nat.le_of_ble_eq_true rfl, Nat.le_of_ble_eq_true rfl, Nat.le_of_ble_eq_true rfl⟩ rfl (k_69 (I := I2) (A := A2) (x := ((gR l k).2.2.1)) ?_)
      show mq 67 148 [some (.ref 42), some (.ref 49), some (.int ba), some (.int (nI bg)), some (.int (nI k))] [.int (nI (zN ((gR l k).2.2.1))), .ref 49] (hS n u I2 A2 J B mk sn L xs X) _
      refine x_k (pc := 148) rfl rfl rfl ⟨Nat.le_of_ble_eq_true rfl, Nat.le_of_ble_eq_true rfl, Nat.le_of_ble_eq_true rfl⟩ rfl (k_68_49 (I := I2) (A := A2) (m := zN ((gR l k).2.2.1)) (l := t2) h2 (by omega) (uN_lt _) (fun I3 A3 f3 g3 h3 => ?_))
      show mq 67 151 [some (.ref 42), some (.ref 49), some (.int ba), some (.int (nI bg)), some (.int (nI k))] [] (hS n u I3 A3 J B mk sn L xs X) _
      obtain ⟨t3, ht3⟩ : ∃ x, x = t2 ++ vE 4 (zN ((gR l k).2.2.1)) := ⟨_, rfl⟩
      rw [← ht3] at h3
      have hn3 : t3.length ≤ t2.length + 5 := by rw [ht3]; have := vE_len 4 (zN ((gR l k).2.2.1)); simp; omega
      refine x_al1 (pc := 151) rfl rfl ?_
      refine x_al1 (pc := 152) rfl rfl ?_
      refine g_42_0 (pc := 153) rfl rfl ?_
      refine g_43_4 (pc := 156) rfl rfl ?_
      refine x_il2 (pc := 159) rfl rfl ?_
      refine al_48 (pc := 161) (q := k) (v := (gR l k).2.2.2.2) rfl rfl (by omega) (show _ = _ from by rw [(show Fr [3] A A3 from (Fr_cons (Fr_cons (Fr_cons (Fr_refl _ _) g1 (by decide)) g2 (by decide)) g3 (by decide))) 19 (by decide)]; exact (hB.2.2.2 k (by omega)).2.2.2.2) ?_
      refine x_k (pc := 162) rfl rfl rfl ⟨Nat.le_of_ble_eq_true rfl, Nat.le_of_ble_eq_true rfl, Nat.le_of_ble_eq_true rfl⟩ rfl (k_27_49 (I := I3) (A := A3) (x := (gR l k).2.2.2.2) (l := t3) h3 (by omega) (fun I4 A4 f4 g4 h4 => ?_))
      show mq 67 165 [some (.ref 42), some (.ref 49), some (.int ba), some (.int (nI bg)), some (.int (nI k))] [] (hS n u I4 A4 J B mk sn L xs X) _
      obtain ⟨t4, ht4⟩ : ∃ x, x = t3 ++ [b8 ((gR l k).2.2.2.2)] := ⟨_, rfl⟩
      rw [← ht4] at h4
      have hn4 : t4.length ≤ t3.length + 1 := by rw [ht4]; simp
      refine x_al1 (pc := 165) rfl rfl ?_
      refine g_42_0 (pc := 166) rfl rfl ?_
      refine g_43_4 (pc := 169) rfl rfl ?_
      refine x_il2 (pc := 172) rfl rfl ?_
      refine al_48 (pc := 174) (q := k) (v := (gR l k).2.2.2.2) rfl rfl (by omega) (show _ = _ from by rw [(show Fr [3] A A4 from (Fr_cons (Fr_cons (Fr_cons (Fr_cons (Fr_refl _ _) g1 (by decide)) g2 (by decide)) g3 (by decide)) g4 (by decide))) 19 (by decide)]; exact (hB.2.2.2 k (by omega)).2.2.2.2) ?_
      refine x_if_ne (pc := 175) (t := 195) rfl rfl rfl (fun c175 => ?_) (fun c175 => ?_)
      · refine x_iincN (pc := 195) (c := 1) (ml' := [some (.ref 42), some (.ref 49), some (.int ba), some (.int (nI bg)), some (.int (nI (k + 1)))]) rfl rfl rfl rfl ?_
        refine x_step (pc := 198) (pc' := 71) rfl rfl rfl rfl ?_
        have hd : l.drop k = gR l k :: l.drop (k + 1) := by
          rw [List.drop_eq_getElem_cons hk]
          simp [gR, hk]
        have ev : t ++ eRs (gR l 0) (l.drop k) = t4 ++ eRs (gR l 0) (l.drop (k + 1)) := by
          rw [hd]
          show t ++ (eR (gR l 0) (gR l k) ++ eRs (gR l 0) (l.drop (k + 1))) = _
          unfold eR
          rw [if_neg c175]
          simp only [ht4, ht3, ht2, ht1, List.append_assoc, List.cons_append, List.nil_append, List.append_nil]
        rw [ev] at kk
        exact ih (k + 1) _ (I := I4) (A := A4) (by omega) (BT_fr hB (Fr_cons (Fr_cons (Fr_cons (Fr_cons (Fr_refl _ _) f1 (by decide)) f2 (by decide)) f3 (by decide)) f4 (by decide)) (Fr_cons (Fr_cons (Fr_cons (Fr_cons (Fr_refl _ _) g1 (by decide)) g2 (by decide)) g3 (by decide)) g4 (by decide))) (by omega) h4 (fun I9 A9 f9 g9 h9 => kk I9 A9 (Fr_cons (Fr_cons (Fr_cons (Fr_cons (Fr_cons (Fr_refl _ _) f1 (by decide)) f2 (by decide)) f3 (by decide)) f4 (by decide)) f9 (by decide)) (Fr_cons (Fr_cons (Fr_cons (Fr_cons (Fr_cons (Fr_refl _ _) g1 (by decide)) g2 (by decide)) g3 (by decide)) g4 (by decide)) g9 (by decide)) h9)
      · refine x_al1 (pc := 178) rfl rfl ?_
        refine x_al1 (pc := 179) rfl rfl ?_
        refine g_42_0 (pc := 180) rfl rfl ?_
        refine g_43_3 (pc := 183) rfl rfl ?_
        refine x_il2 (pc := 186) rfl rfl ?_
        refine al_47 (pc := 188) (q := k) (v := (gR l k).2.2.2.1) rfl rfl (by omega) (show _ = _ from by rw [(show Fr [3] A A4 from (Fr_cons (Fr_cons (Fr_cons (Fr_cons (Fr_refl _ _) g1 (by decide)) g2 (by decide)) g3 (by decide)) g4 (by decide))) 18 (by decide)]; exact (hB.2.2.2 k (by omega)).2.2.2.1) ?_
        refine x_k (pc := 189) rfl rfl rfl ⟨Nat.le_of_ble_eq_true rfl, Nat.le_of_ble_eq_true rfl, Nat.le_of_ble_eq_true rfl⟩ rfl (k_69 (I := I4) (A := A4) (x := ((gR l k).2.2.2.1)) ?_)
        show mq 67 192 [some (.ref 42), some (.ref 49), some (.int ba), some (.int (nI bg)), some (.int (nI k))] [.int (nI (zN ((gR l k).2.2.2.1))), .ref 49] (hS n u I4 A4 J B mk sn L xs X) _
        refine x_k (pc := 192) rfl rfl rfl ⟨Nat.le_of_ble_eq_true rfl, Nat.le_of_ble_eq_true rfl, Nat.le_of_ble_eq_true rfl⟩ rfl (k_68_49 (I := I4) (A := A4) (m := zN ((gR l k).2.2.2.1)) (l := t4) h4 (by omega) (uN_lt _) (fun I5 A5 f5 g5 h5 => ?_))
        show mq 67 195 [some (.ref 42), some (.ref 49), some (.int ba), some (.int (nI bg)), some (.int (nI k))] [] (hS n u I5 A5 J B mk sn L xs X) _
        obtain ⟨t5, ht5⟩ : ∃ x, x = t4 ++ vE 4 (zN ((gR l k).2.2.2.1)) := ⟨_, rfl⟩
        rw [← ht5] at h5
        have hn5 : t5.length ≤ t4.length + 5 := by rw [ht5]; have := vE_len 4 (zN ((gR l k).2.2.2.1)); simp; omega
        refine x_iincN (pc := 195) (c := 1) (ml' := [some (.ref 42), some (.ref 49), some (.int ba), some (.int (nI bg)), some (.int (nI (k + 1)))]) rfl rfl rfl rfl ?_
        refine x_step (pc := 198) (pc' := 71) rfl rfl rfl rfl ?_
        have hd : l.drop k = gR l k :: l.drop (k + 1) := by
          rw [List.drop_eq_getElem_cons hk]
          simp [gR, hk]
        have ev : t ++ eRs (gR l 0) (l.drop k) = t5 ++ eRs (gR l 0) (l.drop (k + 1)) := by
          rw [hd]
          show t ++ (eR (gR l 0) (gR l k) ++ eRs (gR l 0) (l.drop (k + 1))) = _
          unfold eR
          rw [if_pos c175]
          simp only [ht5, ht4, ht3, ht2, ht1, List.append_assoc, List.cons_append, List.nil_append, List.append_nil]
        rw [ev] at kk
        exact ih (k + 1) _ (I := I5) (A := A5) (by omega) (BT_fr hB (Fr_cons (Fr_cons (Fr_cons (Fr_cons (Fr_cons (Fr_refl _ _) f1 (by decide)) f2 (by decide)) f3 (by decide)) f4 (by decide)) f5 (by decide)) (Fr_cons (Fr_cons (Fr_cons (Fr_cons (Fr_cons (Fr_refl _ _) g1 (by decide)) g2 (by decide)) g3 (by decide)) g4 (by decide)) g5 (by decide))) (by omega) h5 (fun I9 A9 f9 g9 h9 => kk I9 A9 (Fr_cons (Fr_cons (Fr_cons (Fr_cons (Fr_cons (Fr_cons (Fr_refl _ _) f1 (by decide)) f2 (by decide)) f3 (by decide)) f4 (by decide)) f5 (by decide)) f9 (by decide)) (Fr_cons (Fr_cons (Fr_cons (Fr_cons (Fr_cons (Fr_cons (Fr_refl _ _) g1 (by decide)) g2 (by decide)) g3 (by decide)) g4 (by decide)) g5 (by decide)) g9 (by decide)) h9)
theorem set_mid (t c : List Nat) (x v : Nat) : (t ++ (x :: c)).set t.length v = t ++ (v :: c) := by
  induction t with
  | nil => rfl
  | cons y t ih =>
    show y :: (t ++ (x :: c)).set t.length v = y :: (t ++ (v :: c))
    rw [ih]
set_option maxRecDepth 100000 in
set_option maxHeartbeats 4000000 in
theorem k_67_1 {ba p s : Int32} {l : List R5} {t : List Nat} (hl1 : 1 ≤ l.length) (hl4 : l.length ≤ 4) (hB : BT 1 I A l p s) (hP : Pg 14 3 128 I A t) (hlt : t.length < 1600) {Q : mO × mHp → Prop} (kk : ∀ I' A', Fr [14] I I' → Fr [3] A A' → Pg 14 3 128 I' A' (t ++ eBt ba p s l) → Q (.inl none, hS n u I' A' J B mk sn L xs X)) : mq 67 0 [some (.ref 42), some (.ref 49), some (.int ba), none, none] [] (hS n u I A J B mk sn L xs X) Q := by
  refine x_al1 (pc := 0) rfl rfl ?_
  refine g_49_1 (pc := 1) (v := nI t.length) rfl rfl hP.1 ?_
  refine x_is1 (pc := 4) (ml' := [some (.ref 42), some (.ref 49), some (.int ba), some (.int (nI t.length)), none]) rfl rfl ?_
  refine x_al1 (pc := 5) rfl rfl ?_
  refine x_const (pc := 6) (pc' := 7) (.int (nI 0)) rfl rfl rfl rfl ?_
  refine x_k (pc := 7) rfl rfl rfl ⟨Nat.le_of_ble_eq_true rfl, Nat.le_of_ble_eq_true rfl, Nat.le_of_ble_eq_true rfl⟩ rfl (k_27_49 (I := I) (A := A) (x := nI 0) (l := t) hP (by omega) (fun I1 A1 f1 g1 h1 => ?_))
  show mq 67 10 [some (.ref 42), some (.ref 49), some (.int ba), some (.int (nI t.length)), none] [] (hS n u I1 A1 J B mk sn L xs X) _
  obtain ⟨t1, ht1⟩ : ∃ x, x = t ++ [b8 (nI 0)] := ⟨_, rfl⟩
  rw [← ht1] at h1
  have hn1 : t1.length ≤ t.length + 1 := by rw [ht1]; simp
  refine x_al1 (pc := 10) rfl rfl ?_
  refine x_al1 (pc := 11) rfl rfl ?_
  refine g_42_0 (pc := 12) rfl rfl ?_
  refine g_43_0 (pc := 15) rfl rfl ?_
  refine x_const (pc := 18) (pc' := 19) (.int (nI 0)) rfl rfl rfl rfl ?_
  refine al_44 (pc := 19) (q := 0) (v := (gR l 0).1) rfl rfl (by omega) (show _ = _ from by rw [(show Fr [3] A A1 from (Fr_cons (Fr_refl _ _) g1 (by decide))) 15 (by decide)]; exact (hB.2.2.2 0 (by omega)).1) ?_
  refine x_il1 (pc := 20) rfl rfl ?_
  refine x_isubV (pc := 21) (v := nI (uN (((gR l 0).1) - ba))) rfl ((nI_uN _).symm) ?_
  refine x_k (pc := 22) rfl rfl rfl ⟨Nat.le_of_ble_eq_true rfl, Nat.le_of_ble_eq_true rfl, Nat.le_of_ble_eq_true rfl⟩ rfl (k_68_49 (I := I1) (A := A1) (m := uN (((gR l 0).1) - ba)) (l := t1) h1 (by omega) (uN_lt _) (fun I2 A2 f2 g2 h2 => ?_))
  show mq 67 25 [some (.ref 42), some (.ref 49), some (.int ba), some (.int (nI t.length)), none] [] (hS n u I2 A2 J B mk sn L xs X) _
  obtain ⟨t2, ht2⟩ : ∃ x, x = t1 ++ vE 4 (uN (((gR l 0).1) - ba)) := ⟨_, rfl⟩
  rw [← ht2] at h2
  have hn2 : t2.length ≤ t1.length + 5 := by rw [ht2]; have := vE_len 4 (uN (((gR l 0).1) - ba)); simp; omega
  refine x_al1 (pc := 25) rfl rfl ?_
  refine x_al1 (pc := 26) rfl rfl ?_
  refine g_42_0 (pc := 27) rfl rfl ?_
  refine g_43_1 (pc := 30) rfl rfl ?_
  refine x_const (pc := 33) (pc' := 34) (.int (nI 0)) rfl rfl rfl rfl ?_
  refine al_45 (pc := 34) (q := 0) (v := (gR l 0).2.1) rfl rfl (by omega) (show _ = _ from by rw [(show Fr [3] A A2 from (Fr_cons (Fr_cons (Fr_refl _ _) g1 (by decide)) g2 (by decide))) 16 (by decide)]; exact (hB.2.2.2 0 (by omega)).2.1) ?_
  refine x_k (pc := 35) rfl rfl rfl ⟨Nat.le_of_ble_eq_true rfl, Nat.le_of_ble_eq_true rfl, Nat.le_of_ble_eq_true rfl⟩ rfl (k_69 (I := I2) (A := A2) (x := ((gR l 0).2.1)) ?_)
  show mq 67 38 [some (.ref 42), some (.ref 49), some (.int ba), some (.int (nI t.length)), none] [.int (nI (zN ((gR l 0).2.1))), .ref 49] (hS n u I2 A2 J B mk sn L xs X) _
  refine x_k (pc := 38) rfl rfl rfl ⟨Nat.le_of_ble_eq_true rfl, Nat.le_of_ble_eq_true rfl, Nat.le_of_ble_eq_true rfl⟩ rfl (k_68_49 (I := I2) (A := A2) (m := zN ((gR l 0).2.1)) (l := t2) h2 (by omega) (uN_lt _) (fun I3 A3 f3 g3 h3 => ?_))
  show mq 67 41 [some (.ref 42), some (.ref 49), some (.int ba), some (.int (nI t.length)), none] [] (hS n u I3 A3 J B mk sn L xs X) _
  obtain ⟨t3, ht3⟩ : ∃ x, x = t2 ++ vE 4 (zN ((gR l 0).2.1)) := ⟨_, rfl⟩
  rw [← ht3] at h3
  have hn3 : t3.length ≤ t2.length + 5 := by rw [ht3]; have := vE_len 4 (zN ((gR l 0).2.1)); simp; omega
  refine x_al1 (pc := 41) rfl rfl ?_
  refine x_al1 (pc := 42) rfl rfl ?_
  refine g_42_1 (pc := 43) (v := p) rfl rfl ((f3 23 (by decide)).trans ((f2 23 (by decide)).trans ((f1 23 (by decide)).trans hB.1))) ?_
  refine x_k (pc := 46) rfl rfl rfl ⟨Nat.le_of_ble_eq_true rfl, Nat.le_of_ble_eq_true rfl, Nat.le_of_ble_eq_true rfl⟩ rfl (k_27_49 (I := I3) (A := A3) (x := p) (l := t3) h3 (by omega) (fun I4 A4 f4 g4 h4 => ?_))
  show mq 67 49 [some (.ref 42), some (.ref 49), some (.int ba), some (.int (nI t.length)), none] [] (hS n u I4 A4 J B mk sn L xs X) _
  obtain ⟨t4, ht4⟩ : ∃ x, x = t3 ++ [b8 (p)] := ⟨_, rfl⟩
  rw [← ht4] at h4
  have hn4 : t4.length ≤ t3.length + 1 := by rw [ht4]; simp
  refine x_al1 (pc := 49) rfl rfl ?_
  refine x_al1 (pc := 50) rfl rfl ?_
  refine g_42_2 (pc := 51) (v := s) rfl rfl ((f4 24 (by decide)).trans ((f3 24 (by decide)).trans ((f2 24 (by decide)).trans ((f1 24 (by decide)).trans hB.2.1)))) ?_
  refine x_top (y := nI (uN s)) ((nI_uN s).symm) ?_
  refine x_k (pc := 54) rfl rfl rfl ⟨Nat.le_of_ble_eq_true rfl, Nat.le_of_ble_eq_true rfl, Nat.le_of_ble_eq_true rfl⟩ rfl (k_68_49 (I := I4) (A := A4) (m := uN s) (l := t4) h4 (by omega) (uN_lt _) (fun I5 A5 f5 g5 h5 => ?_))
  show mq 67 57 [some (.ref 42), some (.ref 49), some (.int ba), some (.int (nI t.length)), none] [] (hS n u I5 A5 J B mk sn L xs X) _
  obtain ⟨t5, ht5⟩ : ∃ x, x = t4 ++ vE 4 (uN s) := ⟨_, rfl⟩
  rw [← ht5] at h5
  have hn5 : t5.length ≤ t4.length + 5 := by rw [ht5]; have := vE_len 4 (uN s); simp; omega
  refine x_al1 (pc := 57) rfl rfl ?_
  refine x_al1 (pc := 58) rfl rfl ?_
  refine g_42_0 (pc := 59) rfl rfl ?_
  refine g_43_5 (pc := 62) (v := nI l.length) rfl rfl ((f5 25 (by decide)).trans ((f4 25 (by decide)).trans ((f3 25 (by decide)).trans ((f2 25 (by decide)).trans ((f1 25 (by decide)).trans hB.2.2.1))))) ?_
  refine x_k (pc := 65) rfl rfl rfl ⟨Nat.le_of_ble_eq_true rfl, Nat.le_of_ble_eq_true rfl, Nat.le_of_ble_eq_true rfl⟩ rfl (k_27_49 (I := I5) (A := A5) (x := nI l.length) (l := t5) h5 (by omega) (fun I6 A6 f6 g6 h6 => ?_))
  show mq 67 68 [some (.ref 42), some (.ref 49), some (.int ba), some (.int (nI t.length)), none] [] (hS n u I6 A6 J B mk sn L xs X) _
  obtain ⟨t6, ht6⟩ : ∃ x, x = t5 ++ [b8 (nI l.length)] := ⟨_, rfl⟩
  rw [← ht6] at h6
  have hn6 : t6.length ≤ t5.length + 1 := by rw [ht6]; simp
  refine x_const (pc := 68) (pc' := 69) (.int (nI 0)) rfl rfl rfl rfl ?_
  refine x_is2 (pc := 69) (ml' := [some (.ref 42), some (.ref 49), some (.int ba), some (.int (nI t.length)), some (.int (nI 0))]) rfl rfl ?_
  refine l_67_1 (I := I6) (A := A6) (bg := t.length) (p := p) (s := s) hl4 l.length 0 t6 (Nat.zero_add _) (BT_fr hB (Fr_cons (Fr_cons (Fr_cons (Fr_cons (Fr_cons (Fr_cons (Fr_refl _ _) f1 (by decide)) f2 (by decide)) f3 (by decide)) f4 (by decide)) f5 (by decide)) f6 (by decide)) (Fr_cons (Fr_cons (Fr_cons (Fr_cons (Fr_cons (Fr_cons (Fr_refl _ _) g1 (by decide)) g2 (by decide)) g3 (by decide)) g4 (by decide)) g5 (by decide)) g6 (by decide))) (by omega) h6 (fun I9 A9 f9 g9 h9 => ?_)
  have e9 : t6 ++ eRs (gR l 0) (l.drop 0) = t ++ (0 :: eCn ba p s l) := by
    rw [List.drop_zero]
    unfold eCn
    simp only [ht6, ht5, ht4, ht3, ht2, ht1, b8_nI, List.append_assoc, List.cons_append, List.nil_append]
  rw [e9] at h9
  have hcl := eCn_len ba p s l
  have hfl : (t ++ (0 :: eCn ba p s l)).length = t.length + 1 + (eCn ba p s l).length := by simp; omega
  refine x_al1 (pc := 201) rfl rfl ?_
  refine x_il1 (pc := 202) rfl rfl ?_
  refine x_al1 (pc := 203) rfl rfl ?_
  refine g_49_1 (pc := 204) (v := nI ((t ++ (0 :: eCn ba p s l)).length)) rfl rfl h9.1 ?_
  refine x_il1 (pc := 207) rfl rfl ?_
  refine x_isubN (pc := 208) rfl ((by omega)) ?_
  refine x_const (pc := 209) (pc' := 210) (.int (nI 1)) rfl rfl rfl rfl ?_
  refine x_isubN (pc := 210) rfl ((by omega)) ?_
  refine x_const (pc := 211) (pc' := 212) (.int (nI 1)) rfl rfl rfl rfl ?_
  refine x_k (pc := 212) rfl rfl rfl ⟨Nat.le_of_ble_eq_true rfl, Nat.le_of_ble_eq_true rfl, Nat.le_of_ble_eq_true rfl⟩ rfl (k_70_1 (I := I9) (A := A9) (p := t.length) (m := (((t ++ (0 :: eCn ba p s l)).length) - t.length) - 1) (l := t ++ (0 :: eCn ba p s l)) h9 (by omega) (by omega) (by omega) (fun I10 A10 f10 g10 h10 => ?_))
  show mq 67 215 [some (.ref 42), some (.ref 49), some (.int ba), some (.int (nI t.length)), some (.int (nI l.length))] [] (hS n u I10 A10 J B mk sn L xs X) _
  refine x_ret (pc := 215) rfl rfl ?_
  rw [set_mid, show (t ++ (0 :: eCn ba p s l)).length - t.length - 1 = (eCn ba p s l).length by omega] at h10
  exact kk I10 A10 (Fr_cons (Fr_cons (Fr_cons (Fr_cons (Fr_cons (Fr_cons (Fr_cons (Fr_cons (Fr_refl _ _) f1 (by decide)) f2 (by decide)) f3 (by decide)) f4 (by decide)) f5 (by decide)) f6 (by decide)) f9 (by decide)) f10 (by decide)) (Fr_cons (Fr_cons (Fr_cons (Fr_cons (Fr_cons (Fr_cons (Fr_cons (Fr_cons (Fr_refl _ _) g1 (by decide)) g2 (by decide)) g3 (by decide)) g4 (by decide)) g5 (by decide)) g6 (by decide)) g9 (by decide)) g10 (by decide)) h10
set_option maxRecDepth 100000 in
set_option maxHeartbeats 4000000 in
theorem l_67_2 {bg : Nat} {ba p s : Int32} {l : List R5} (hl4 : l.length ≤ 4) {Q : mO × mHp → Prop} : ∀ (z k : Nat) (t : List Nat) {I : Nat → Int32} {A : Nat → Nat → Int32}, (k + z = l.length) → (BT 2 I A l p s) → (t.length + 21 * z < 1800) → (Pg 14 3 128 I A t) → (∀ I' A', Fr [14] I I' → Fr [3] A A' → Pg 14 3 128 I' A' (t ++ eRs (gR l 0) (l.drop k)) → mq 67 201 [some (.ref 53), some (.ref 49), some (.int ba), some (.int (nI bg)), some (.int (nI l.length))] [] (hS n u I' A' J B mk sn L xs X) Q) → mq 67 71 [some (.ref 53), some (.ref 49), some (.int ba), some (.int (nI bg)), some (.int (nI k))] [] (hS n u I A J B mk sn L xs X) Q := by
  intro z
  induction z with
  | zero =>
    intro k t I A hz hB hlt hP kk
    refine x_il2 (pc := 71) rfl rfl ?_
    refine x_al1 (pc := 73) rfl rfl ?_
    refine g_53_0 (pc := 74) rfl rfl ?_
    refine g_54_5 (pc := 77) (v := nI l.length) rfl rfl hB.2.2.1 ?_
    refine x_cmpN_ge (pc := 80) (t := 201) rfl rfl (by omega) (by omega) (fun c80 => ?_) (fun c80 => ?_)
    · have hk : k = l.length := by omega
      have e : t ++ eRs (gR l 0) (l.drop k) = t := by
        rw [hk, List.drop_length]
        exact List.append_nil t
      rw [e] at kk
      rw [hk]
      exact kk I A (Fr_refl _ _) (Fr_refl _ _) hP
    · omega
  | succ z ih =>
    intro k t I A hz hB hlt hP kk
    have hk : k < l.length := by omega
    refine x_il2 (pc := 71) rfl rfl ?_
    refine x_al1 (pc := 73) rfl rfl ?_
    refine g_53_0 (pc := 74) rfl rfl ?_
    refine g_54_5 (pc := 77) (v := nI l.length) rfl rfl hB.2.2.1 ?_
    refine x_cmpN_ge (pc := 80) (t := 201) rfl rfl (by omega) (by omega) (fun c80 => ?_) (fun c80 => ?_)
    · omega
    · refine x_al1 (pc := 83) rfl rfl ?_
      refine x_al1 (pc := 84) rfl rfl ?_
      refine g_53_0 (pc := 85) rfl rfl ?_
      refine g_54_0 (pc := 88) rfl rfl ?_
      refine x_il2 (pc := 91) rfl rfl ?_
      refine al_55 (pc := 93) (q := k) (v := (gR l k).1) rfl rfl (by omega) ((hB.2.2.2 k (by omega)).1) ?_
      refine x_al1 (pc := 94) rfl rfl ?_
      refine g_53_0 (pc := 95) rfl rfl ?_
      refine g_54_0 (pc := 98) rfl rfl ?_
      refine x_const (pc := 101) (pc' := 102) (.int (nI 0)) rfl rfl rfl rfl ?_
      refine al_55 (pc := 102) (q := 0) (v := (gR l 0).1) rfl rfl (by omega) ((hB.2.2.2 0 (by omega)).1) ?_
      refine x_isubV (pc := 103) (v := nI (uN (((gR l k).1) - ((gR l 0).1)))) rfl ((nI_uN _).symm) ?_
      refine x_k (pc := 104) rfl rfl rfl ⟨Nat.le_of_ble_eq_true rfl, Nat.le_of_ble_eq_true rfl, Nat.le_of_ble_eq_true rfl⟩ rfl (k_68_49 (I := I) (A := A) (m := uN (((gR l k).1) - ((gR l 0).1))) (l := t) hP (by omega) (uN_lt _) (fun I1 A1 f1 g1 h1 => ?_))
      show mq 67 107 [some (.ref 53), some (.ref 49), some (.int ba), some (.int (nI bg)), some (.int (nI k))] [] (hS n u I1 A1 J B mk sn L xs X) _
      obtain ⟨t1, ht1⟩ : ∃ x, x = t ++ vE 4 (uN (((gR l k).1) - ((gR l 0).1))) := ⟨_, rfl⟩
      rw [← ht1] at h1
      have hn1 : t1.length ≤ t.length + 5 := by rw [ht1]; have := vE_len 4 (uN (((gR l k).1) - ((gR l 0).1))); simp; omega
      refine x_al1 (pc := 107) rfl rfl ?_
      refine x_al1 (pc := 108) rfl rfl ?_
      refine g_53_0 (pc := 109) rfl rfl ?_
      refine g_54_1 (pc := 112) rfl rfl ?_
      refine x_il2 (pc := 115) rfl rfl ?_
      refine al_56 (pc := 117) (q := k) (v := (gR l k).2.1) rfl rfl (by omega) (show _ = _ from by rw [(show Fr [3] A A1 from (Fr_cons (Fr_refl _ _) g1 (by decide))) 21 (by decide)]; exact (hB.2.2.2 k (by omega)).2.1) ?_
      refine x_al1 (pc := 118) rfl rfl ?_
      refine g_53_0 (pc := 119) rfl rfl ?_
      refine g_54_1 (pc := 122) rfl rfl ?_
      refine x_const (pc := 125) (pc' := 126) (.int (nI 0)) rfl rfl rfl rfl ?_
      refine al_56 (pc := 126) (q := 0) (v := (gR l 0).2.1) rfl rfl (by omega) (show _ = _ from by rw [(show Fr [3] A A1 from (Fr_cons (Fr_refl _ _) g1 (by decide))) 21 (by decide)]; exact (hB.2.2.2 0 (by omega)).2.1) ?_
      refine x_isub (pc := 127) rfl rfl ?_
      refine x_k (pc := 128) rfl rfl rfl ⟨Nat.le_of_ble_eq_true rfl, Nat.le_of_ble_eq_true rfl, Nat.le_of_ble_eq_true rfl⟩ rfl (k_69 (I := I1) (A := A1) (x := (((gR l k).2.1) - ((gR l 0).2.1))) ?_)
      show mq 67 131 [some (.ref 53), some (.ref 49), some (.int ba), some (.int (nI bg)), some (.int (nI k))] [.int (nI (zN (((gR l k).2.1) - ((gR l 0).2.1)))), .ref 49] (hS n u I1 A1 J B mk sn L xs X) _
      refine x_k (pc := 131) rfl rfl rfl ⟨Nat.le_of_ble_eq_true rfl, Nat.le_of_ble_eq_true rfl, Nat.le_of_ble_eq_true rfl⟩ rfl (k_68_49 (I := I1) (A := A1) (m := zN (((gR l k).2.1) - ((gR l 0).2.1))) (l := t1) h1 (by omega) (uN_lt _) (fun I2 A2 f2 g2 h2 => ?_))
      show mq 67 134 [some (.ref 53), some (.ref 49), some (.int ba), some (.int (nI bg)), some (.int (nI k))] [] (hS n u I2 A2 J B mk sn L xs X) _
      obtain ⟨t2, ht2⟩ : ∃ x, x = t1 ++ vE 4 (zN (((gR l k).2.1) - ((gR l 0).2.1))) := ⟨_, rfl⟩
      rw [← ht2] at h2
      have hn2 : t2.length ≤ t1.length + 5 := by rw [ht2]; have := vE_len 4 (zN (((gR l k).2.1) - ((gR l 0).2.1))); simp; omega
      refine x_al1 (pc := 134) rfl rfl ?_
      refine x_al1 (pc := 135) rfl rfl ?_
      refine g_53_0 (pc := 136) rfl rfl ?_
      refine g_54_2 (pc := 139) rfl rfl ?_
      refine x_il2 (pc := 142) rfl rfl ?_
      refine al_57 (pc := 144) (q := k) (v := (gR l k).2.2.1) rfl rfl (by omega) (show _ = _ from by rw [(show Fr [3] A A2 from (Fr_cons (Fr_cons (Fr_refl _ _) g1 (by decide)) g2 (by decide))) 22 (by decide)]; exact (hB.2.2.2 k (by omega)).2.2.1) ?_
      refine x_k (pc := 145) rfl rfl rfl ⟨Nat.le_of_ble_eq_true rfl, Nat.le_of_ble_eq_true rfl, Nat.le_of_ble_eq_true rfl⟩ rfl (k_69 (I := I2) (A := A2) (x := ((gR l k).2.2.1)) ?_)
      show mq 67 148 [some (.ref 53), some (.ref 49), some (.int ba), some (.int (nI bg)), some (.int (nI k))] [.int (nI (zN ((gR l k).2.2.1))), .ref 49] (hS n u I2 A2 J B mk sn L xs X) _
      refine x_k (pc := 148) rfl rfl rfl ⟨Nat.le_of_ble_eq_true rfl, Nat.le_of_ble_eq_true rfl, Nat.le_of_ble_eq_true rfl⟩ rfl (k_68_49 (I := I2) (A := A2) (m := zN ((gR l k).2.2.1)) (l := t2) h2 (by omega) (uN_lt _) (fun I3 A3 f3 g3 h3 => ?_))
      show mq 67 151 [some (.ref 53), some (.ref 49), some (.int ba), some (.int (nI bg)), some (.int (nI k))] [] (hS n u I3 A3 J B mk sn L xs X) _
      obtain ⟨t3, ht3⟩ : ∃ x, x = t2 ++ vE 4 (zN ((gR l k).2.2.1)) := ⟨_, rfl⟩
      rw [← ht3] at h3
      have hn3 : t3.length ≤ t2.length + 5 := by rw [ht3]; have := vE_len 4 (zN ((gR l k).2.2.1)); simp; omega
      refine x_al1 (pc := 151) rfl rfl ?_
      refine x_al1 (pc := 152) rfl rfl ?_
      refine g_53_0 (pc := 153) rfl rfl ?_
      refine g_54_4 (pc := 156) rfl rfl ?_
      refine x_il2 (pc := 159) rfl rfl ?_
      refine al_59 (pc := 161) (q := k) (v := (gR l k).2.2.2.2) rfl rfl (by omega) (show _ = _ from by rw [(show Fr [3] A A3 from (Fr_cons (Fr_cons (Fr_cons (Fr_refl _ _) g1 (by decide)) g2 (by decide)) g3 (by decide))) 24 (by decide)]; exact (hB.2.2.2 k (by omega)).2.2.2.2) ?_
      refine x_k (pc := 162) rfl rfl rfl ⟨Nat.le_of_ble_eq_true rfl, Nat.le_of_ble_eq_true rfl, Nat.le_of_ble_eq_true rfl⟩ rfl (k_27_49 (I := I3) (A := A3) (x := (gR l k).2.2.2.2) (l := t3) h3 (by omega) (fun I4 A4 f4 g4 h4 => ?_))
      show mq 67 165 [some (.ref 53), some (.ref 49), some (.int ba), some (.int (nI bg)), some (.int (nI k))] [] (hS n u I4 A4 J B mk sn L xs X) _
      obtain ⟨t4, ht4⟩ : ∃ x, x = t3 ++ [b8 ((gR l k).2.2.2.2)] := ⟨_, rfl⟩
      rw [← ht4] at h4
      have hn4 : t4.length ≤ t3.length + 1 := by rw [ht4]; simp
      refine x_al1 (pc := 165) rfl rfl ?_
      refine g_53_0 (pc := 166) rfl rfl ?_
      refine g_54_4 (pc := 169) rfl rfl ?_
      refine x_il2 (pc := 172) rfl rfl ?_
      refine al_59 (pc := 174) (q := k) (v := (gR l k).2.2.2.2) rfl rfl (by omega) (show _ = _ from by rw [(show Fr [3] A A4 from (Fr_cons (Fr_cons (Fr_cons (Fr_cons (Fr_refl _ _) g1 (by decide)) g2 (by decide)) g3 (by decide)) g4 (by decide))) 24 (by decide)]; exact (hB.2.2.2 k (by omega)).2.2.2.2) ?_
      refine x_if_ne (pc := 175) (t := 195) rfl rfl rfl (fun c175 => ?_) (fun c175 => ?_)
      · refine x_iincN (pc := 195) (c := 1) (ml' := [some (.ref 53), some (.ref 49), some (.int ba), some (.int (nI bg)), some (.int (nI (k + 1)))]) rfl rfl rfl rfl ?_
        refine x_step (pc := 198) (pc' := 71) rfl rfl rfl rfl ?_
        have hd : l.drop k = gR l k :: l.drop (k + 1) := by
          rw [List.drop_eq_getElem_cons hk]
          simp [gR, hk]
        have ev : t ++ eRs (gR l 0) (l.drop k) = t4 ++ eRs (gR l 0) (l.drop (k + 1)) := by
          rw [hd]
          show t ++ (eR (gR l 0) (gR l k) ++ eRs (gR l 0) (l.drop (k + 1))) = _
          unfold eR
          rw [if_neg c175]
          simp only [ht4, ht3, ht2, ht1, List.append_assoc, List.cons_append, List.nil_append, List.append_nil]
        rw [ev] at kk
        exact ih (k + 1) _ (I := I4) (A := A4) (by omega) (BT_fr hB (Fr_cons (Fr_cons (Fr_cons (Fr_cons (Fr_refl _ _) f1 (by decide)) f2 (by decide)) f3 (by decide)) f4 (by decide)) (Fr_cons (Fr_cons (Fr_cons (Fr_cons (Fr_refl _ _) g1 (by decide)) g2 (by decide)) g3 (by decide)) g4 (by decide))) (by omega) h4 (fun I9 A9 f9 g9 h9 => kk I9 A9 (Fr_cons (Fr_cons (Fr_cons (Fr_cons (Fr_cons (Fr_refl _ _) f1 (by decide)) f2 (by decide)) f3 (by decide)) f4 (by decide)) f9 (by decide)) (Fr_cons (Fr_cons (Fr_cons (Fr_cons (Fr_cons (Fr_refl _ _) g1 (by decide)) g2 (by decide)) g3 (by decide)) g4 (by decide)) g9 (by decide)) h9)
      · refine x_al1 (pc := 178) rfl rfl ?_
        refine x_al1 (pc := 179) rfl rfl ?_
        refine g_53_0 (pc := 180) rfl rfl ?_
        refine g_54_3 (pc := 183) rfl rfl ?_
        refine x_il2 (pc := 186) rfl rfl ?_
        refine al_58 (pc := 188) (q := k) (v := (gR l k).2.2.2.1) rfl rfl (by omega) (show _ = _ from by rw [(show Fr [3] A A4 from (Fr_cons (Fr_cons (Fr_cons (Fr_cons (Fr_refl _ _) g1 (by decide)) g2 (by decide)) g3 (by decide)) g4 (by decide))) 23 (by decide)]; exact (hB.2.2.2 k (by omega)).2.2.2.1) ?_
        refine x_k (pc := 189) rfl rfl rfl ⟨Nat.le_of_ble_eq_true rfl, Nat.le_of_ble_eq_true rfl, Nat.le_of_ble_eq_true rfl⟩ rfl (k_69 (I := I4) (A := A4) (x := ((gR l k).2.2.2.1)) ?_)
        show mq 67 192 [some (.ref 53), some (.ref 49), some (.int ba), some (.int (nI bg)), some (.int (nI k))] [.int (nI (zN ((gR l k).2.2.2.1))), .ref 49] (hS n u I4 A4 J B mk sn L xs X) _
        refine x_k (pc := 192) rfl rfl rfl ⟨Nat.le_of_ble_eq_true rfl, Nat.le_of_ble_eq_true rfl, Nat.le_of_ble_eq_true rfl⟩ rfl (k_68_49 (I := I4) (A := A4) (m := zN ((gR l k).2.2.2.1)) (l := t4) h4 (by omega) (uN_lt _) (fun I5 A5 f5 g5 h5 => ?_))
        show mq 67 195 [some (.ref 53), some (.ref 49), some (.int ba), some (.int (nI bg)), some (.int (nI k))] [] (hS n u I5 A5 J B mk sn L xs X) _
        obtain ⟨t5, ht5⟩ : ∃ x, x = t4 ++ vE 4 (zN ((gR l k).2.2.2.1)) := ⟨_, rfl⟩
        rw [← ht5] at h5
        have hn5 : t5.length ≤ t4.length + 5 := by rw [ht5]; have := vE_len 4 (zN ((gR l k).2.2.2.1)); simp; omega
        refine x_iincN (pc := 195) (c := 1) (ml' := [some (.ref 53), some (.ref 49), some (.int ba), some (.int (nI bg)), some (.int (nI (k + 1)))]) rfl rfl rfl rfl ?_
        refine x_step (pc := 198) (pc' := 71) rfl rfl rfl rfl ?_
        have hd : l.drop k = gR l k :: l.drop (k + 1) := by
          rw [List.drop_eq_getElem_cons hk]
          simp [gR, hk]
        have ev : t ++ eRs (gR l 0) (l.drop k) = t5 ++ eRs (gR l 0) (l.drop (k + 1)) := by
          rw [hd]
          show t ++ (eR (gR l 0) (gR l k) ++ eRs (gR l 0) (l.drop (k + 1))) = _
          unfold eR
          rw [if_pos c175]
          simp only [ht5, ht4, ht3, ht2, ht1, List.append_assoc, List.cons_append, List.nil_append, List.append_nil]
        rw [ev] at kk
        exact ih (k + 1) _ (I := I5) (A := A5) (by omega) (BT_fr hB (Fr_cons (Fr_cons (Fr_cons (Fr_cons (Fr_cons (Fr_refl _ _) f1 (by decide)) f2 (by decide)) f3 (by decide)) f4 (by decide)) f5 (by decide)) (Fr_cons (Fr_cons (Fr_cons (Fr_cons (Fr_cons (Fr_refl _ _) g1 (by decide)) g2 (by decide)) g3 (by decide)) g4 (by decide)) g5 (by decide))) (by omega) h5 (fun I9 A9 f9 g9 h9 => kk I9 A9 (Fr_cons (Fr_cons (Fr_cons (Fr_cons (Fr_cons (Fr_cons (Fr_refl _ _) f1 (by decide)) f2 (by decide)) f3 (by decide)) f4 (by decide)) f5 (by decide)) f9 (by decide)) (Fr_cons (Fr_cons (Fr_cons (Fr_cons (Fr_cons (Fr_cons (Fr_refl _ _) g1 (by decide)) g2 (by decide)) g3 (by decide)) g4 (by decide)) g5 (by decide)) g9 (by decide)) h9)
set_option maxRecDepth 100000 in
set_option maxHeartbeats 4000000 in
theorem k_67_2 {ba p s : Int32} {l : List R5} {t : List Nat} (hl1 : 1 ≤ l.length) (hl4 : l.length ≤ 4) (hB : BT 2 I A l p s) (hP : Pg 14 3 128 I A t) (hlt : t.length < 1600) {Q : mO × mHp → Prop} (kk : ∀ I' A', Fr [14] I I' → Fr [3] A A' → Pg 14 3 128 I' A' (t ++ eBt ba p s l) → Q (.inl none, hS n u I' A' J B mk sn L xs X)) : mq 67 0 [some (.ref 53), some (.ref 49), some (.int ba), none, none] [] (hS n u I A J B mk sn L xs X) Q := by
  refine x_al1 (pc := 0) rfl rfl ?_
  refine g_49_1 (pc := 1) (v := nI t.length) rfl rfl hP.1 ?_
  refine x_is1 (pc := 4) (ml' := [some (.ref 53), some (.ref 49), some (.int ba), some (.int (nI t.length)), none]) rfl rfl ?_
  refine x_al1 (pc := 5) rfl rfl ?_
  refine x_const (pc := 6) (pc' := 7) (.int (nI 0)) rfl rfl rfl rfl ?_
  refine x_k (pc := 7) rfl rfl rfl ⟨Nat.le_of_ble_eq_true rfl, Nat.le_of_ble_eq_true rfl, Nat.le_of_ble_eq_true rfl⟩ rfl (k_27_49 (I := I) (A := A) (x := nI 0) (l := t) hP (by omega) (fun I1 A1 f1 g1 h1 => ?_))
  show mq 67 10 [some (.ref 53), some (.ref 49), some (.int ba), some (.int (nI t.length)), none] [] (hS n u I1 A1 J B mk sn L xs X) _
  obtain ⟨t1, ht1⟩ : ∃ x, x = t ++ [b8 (nI 0)] := ⟨_, rfl⟩
  rw [← ht1] at h1
  have hn1 : t1.length ≤ t.length + 1 := by rw [ht1]; simp
  refine x_al1 (pc := 10) rfl rfl ?_
  refine x_al1 (pc := 11) rfl rfl ?_
  refine g_53_0 (pc := 12) rfl rfl ?_
  refine g_54_0 (pc := 15) rfl rfl ?_
  refine x_const (pc := 18) (pc' := 19) (.int (nI 0)) rfl rfl rfl rfl ?_
  refine al_55 (pc := 19) (q := 0) (v := (gR l 0).1) rfl rfl (by omega) (show _ = _ from by rw [(show Fr [3] A A1 from (Fr_cons (Fr_refl _ _) g1 (by decide))) 20 (by decide)]; exact (hB.2.2.2 0 (by omega)).1) ?_
  refine x_il1 (pc := 20) rfl rfl ?_
  refine x_isubV (pc := 21) (v := nI (uN (((gR l 0).1) - ba))) rfl ((nI_uN _).symm) ?_
  refine x_k (pc := 22) rfl rfl rfl ⟨Nat.le_of_ble_eq_true rfl, Nat.le_of_ble_eq_true rfl, Nat.le_of_ble_eq_true rfl⟩ rfl (k_68_49 (I := I1) (A := A1) (m := uN (((gR l 0).1) - ba)) (l := t1) h1 (by omega) (uN_lt _) (fun I2 A2 f2 g2 h2 => ?_))
  show mq 67 25 [some (.ref 53), some (.ref 49), some (.int ba), some (.int (nI t.length)), none] [] (hS n u I2 A2 J B mk sn L xs X) _
  obtain ⟨t2, ht2⟩ : ∃ x, x = t1 ++ vE 4 (uN (((gR l 0).1) - ba)) := ⟨_, rfl⟩
  rw [← ht2] at h2
  have hn2 : t2.length ≤ t1.length + 5 := by rw [ht2]; have := vE_len 4 (uN (((gR l 0).1) - ba)); simp; omega
  refine x_al1 (pc := 25) rfl rfl ?_
  refine x_al1 (pc := 26) rfl rfl ?_
  refine g_53_0 (pc := 27) rfl rfl ?_
  refine g_54_1 (pc := 30) rfl rfl ?_
  refine x_const (pc := 33) (pc' := 34) (.int (nI 0)) rfl rfl rfl rfl ?_
  refine al_56 (pc := 34) (q := 0) (v := (gR l 0).2.1) rfl rfl (by omega) (show _ = _ from by rw [(show Fr [3] A A2 from (Fr_cons (Fr_cons (Fr_refl _ _) g1 (by decide)) g2 (by decide))) 21 (by decide)]; exact (hB.2.2.2 0 (by omega)).2.1) ?_
  refine x_k (pc := 35) rfl rfl rfl ⟨Nat.le_of_ble_eq_true rfl, Nat.le_of_ble_eq_true rfl, Nat.le_of_ble_eq_true rfl⟩ rfl (k_69 (I := I2) (A := A2) (x := ((gR l 0).2.1)) ?_)
  show mq 67 38 [some (.ref 53), some (.ref 49), some (.int ba), some (.int (nI t.length)), none] [.int (nI (zN ((gR l 0).2.1))), .ref 49] (hS n u I2 A2 J B mk sn L xs X) _
  refine x_k (pc := 38) rfl rfl rfl ⟨Nat.le_of_ble_eq_true rfl, Nat.le_of_ble_eq_true rfl, Nat.le_of_ble_eq_true rfl⟩ rfl (k_68_49 (I := I2) (A := A2) (m := zN ((gR l 0).2.1)) (l := t2) h2 (by omega) (uN_lt _) (fun I3 A3 f3 g3 h3 => ?_))
  show mq 67 41 [some (.ref 53), some (.ref 49), some (.int ba), some (.int (nI t.length)), none] [] (hS n u I3 A3 J B mk sn L xs X) _
  obtain ⟨t3, ht3⟩ : ∃ x, x = t2 ++ vE 4 (zN ((gR l 0).2.1)) := ⟨_, rfl⟩
  rw [← ht3] at h3
  have hn3 : t3.length ≤ t2.length + 5 := by rw [ht3]; have := vE_len 4 (zN ((gR l 0).2.1)); simp; omega
  refine x_al1 (pc := 41) rfl rfl ?_
  refine x_al1 (pc := 42) rfl rfl ?_
  refine g_53_1 (pc := 43) (v := p) rfl rfl ((f3 26 (by decide)).trans ((f2 26 (by decide)).trans ((f1 26 (by decide)).trans hB.1))) ?_
  refine x_k (pc := 46) rfl rfl rfl ⟨Nat.le_of_ble_eq_true rfl, Nat.le_of_ble_eq_true rfl, Nat.le_of_ble_eq_true rfl⟩ rfl (k_27_49 (I := I3) (A := A3) (x := p) (l := t3) h3 (by omega) (fun I4 A4 f4 g4 h4 => ?_))
  show mq 67 49 [some (.ref 53), some (.ref 49), some (.int ba), some (.int (nI t.length)), none] [] (hS n u I4 A4 J B mk sn L xs X) _
  obtain ⟨t4, ht4⟩ : ∃ x, x = t3 ++ [b8 (p)] := ⟨_, rfl⟩
  rw [← ht4] at h4
  have hn4 : t4.length ≤ t3.length + 1 := by rw [ht4]; simp
  refine x_al1 (pc := 49) rfl rfl ?_
  refine x_al1 (pc := 50) rfl rfl ?_
  refine g_53_2 (pc := 51) (v := s) rfl rfl ((f4 27 (by decide)).trans ((f3 27 (by decide)).trans ((f2 27 (by decide)).trans ((f1 27 (by decide)).trans hB.2.1)))) ?_
  refine x_top (y := nI (uN s)) ((nI_uN s).symm) ?_
  refine x_k (pc := 54) rfl rfl rfl ⟨Nat.le_of_ble_eq_true rfl, Nat.le_of_ble_eq_true rfl, Nat.le_of_ble_eq_true rfl⟩ rfl (k_68_49 (I := I4) (A := A4) (m := uN s) (l := t4) h4 (by omega) (uN_lt _) (fun I5 A5 f5 g5 h5 => ?_))
  show mq 67 57 [some (.ref 53), some (.ref 49), some (.int ba), some (.int (nI t.length)), none] [] (hS n u I5 A5 J B mk sn L xs X) _
  obtain ⟨t5, ht5⟩ : ∃ x, x = t4 ++ vE 4 (uN s) := ⟨_, rfl⟩
  rw [← ht5] at h5
  have hn5 : t5.length ≤ t4.length + 5 := by rw [ht5]; have := vE_len 4 (uN s); simp; omega
  refine x_al1 (pc := 57) rfl rfl ?_
  refine x_al1 (pc := 58) rfl rfl ?_
  refine g_53_0 (pc := 59) rfl rfl ?_
  refine g_54_5 (pc := 62) (v := nI l.length) rfl rfl ((f5 28 (by decide)).trans ((f4 28 (by decide)).trans ((f3 28 (by decide)).trans ((f2 28 (by decide)).trans ((f1 28 (by decide)).trans hB.2.2.1))))) ?_
  refine x_k (pc := 65) rfl rfl rfl ⟨Nat.le_of_ble_eq_true rfl, Nat.le_of_ble_eq_true rfl, Nat.le_of_ble_eq_true rfl⟩ rfl (k_27_49 (I := I5) (A := A5) (x := nI l.length) (l := t5) h5 (by omega) (fun I6 A6 f6 g6 h6 => ?_))
  show mq 67 68 [some (.ref 53), some (.ref 49), some (.int ba), some (.int (nI t.length)), none] [] (hS n u I6 A6 J B mk sn L xs X) _
  obtain ⟨t6, ht6⟩ : ∃ x, x = t5 ++ [b8 (nI l.length)] := ⟨_, rfl⟩
  rw [← ht6] at h6
  have hn6 : t6.length ≤ t5.length + 1 := by rw [ht6]; simp
  refine x_const (pc := 68) (pc' := 69) (.int (nI 0)) rfl rfl rfl rfl ?_
  refine x_is2 (pc := 69) (ml' := [some (.ref 53), some (.ref 49), some (.int ba), some (.int (nI t.length)), some (.int (nI 0))]) rfl rfl ?_
  refine l_67_2 (I := I6) (A := A6) (bg := t.length) (p := p) (s := s) hl4 l.length 0 t6 (Nat.zero_add _) (BT_fr hB (Fr_cons (Fr_cons (Fr_cons (Fr_cons (Fr_cons (Fr_cons (Fr_refl _ _) f1 (by decide)) f2 (by decide)) f3 (by decide)) f4 (by decide)) f5 (by decide)) f6 (by decide)) (Fr_cons (Fr_cons (Fr_cons (Fr_cons (Fr_cons (Fr_cons (Fr_refl _ _) g1 (by decide)) g2 (by decide)) g3 (by decide)) g4 (by decide)) g5 (by decide)) g6 (by decide))) (by omega) h6 (fun I9 A9 f9 g9 h9 => ?_)
  have e9 : t6 ++ eRs (gR l 0) (l.drop 0) = t ++ (0 :: eCn ba p s l) := by
    rw [List.drop_zero]
    unfold eCn
    simp only [ht6, ht5, ht4, ht3, ht2, ht1, b8_nI, List.append_assoc, List.cons_append, List.nil_append]
  rw [e9] at h9
  have hcl := eCn_len ba p s l
  have hfl : (t ++ (0 :: eCn ba p s l)).length = t.length + 1 + (eCn ba p s l).length := by simp; omega
  refine x_al1 (pc := 201) rfl rfl ?_
  refine x_il1 (pc := 202) rfl rfl ?_
  refine x_al1 (pc := 203) rfl rfl ?_
  refine g_49_1 (pc := 204) (v := nI ((t ++ (0 :: eCn ba p s l)).length)) rfl rfl h9.1 ?_
  refine x_il1 (pc := 207) rfl rfl ?_
  refine x_isubN (pc := 208) rfl ((by omega)) ?_
  refine x_const (pc := 209) (pc' := 210) (.int (nI 1)) rfl rfl rfl rfl ?_
  refine x_isubN (pc := 210) rfl ((by omega)) ?_
  refine x_const (pc := 211) (pc' := 212) (.int (nI 1)) rfl rfl rfl rfl ?_
  refine x_k (pc := 212) rfl rfl rfl ⟨Nat.le_of_ble_eq_true rfl, Nat.le_of_ble_eq_true rfl, Nat.le_of_ble_eq_true rfl⟩ rfl (k_70_1 (I := I9) (A := A9) (p := t.length) (m := (((t ++ (0 :: eCn ba p s l)).length) - t.length) - 1) (l := t ++ (0 :: eCn ba p s l)) h9 (by omega) (by omega) (by omega) (fun I10 A10 f10 g10 h10 => ?_))
  show mq 67 215 [some (.ref 53), some (.ref 49), some (.int ba), some (.int (nI t.length)), some (.int (nI l.length))] [] (hS n u I10 A10 J B mk sn L xs X) _
  refine x_ret (pc := 215) rfl rfl ?_
  rw [set_mid, show (t ++ (0 :: eCn ba p s l)).length - t.length - 1 = (eCn ba p s l).length by omega] at h10
  exact kk I10 A10 (Fr_cons (Fr_cons (Fr_cons (Fr_cons (Fr_cons (Fr_cons (Fr_cons (Fr_cons (Fr_refl _ _) f1 (by decide)) f2 (by decide)) f3 (by decide)) f4 (by decide)) f5 (by decide)) f6 (by decide)) f9 (by decide)) f10 (by decide)) (Fr_cons (Fr_cons (Fr_cons (Fr_cons (Fr_cons (Fr_cons (Fr_cons (Fr_cons (Fr_refl _ _) g1 (by decide)) g2 (by decide)) g3 (by decide)) g4 (by decide)) g5 (by decide)) g6 (by decide)) g9 (by decide)) g10 (by decide)) h10
set_option maxRecDepth 100000 in
set_option maxHeartbeats 4000000 in
theorem l_67_3 {bg : Nat} {ba p s : Int32} {l : List R5} (hl4 : l.length ≤ 4) {Q : mO × mHp → Prop} : ∀ (z k : Nat) (t : List Nat) {I : Nat → Int32} {A : Nat → Nat → Int32}, (k + z = l.length) → (BT 3 I A l p s) → (t.length + 21 * z < 1800) → (Pg 14 3 128 I A t) → (∀ I' A', Fr [14] I I' → Fr [3] A A' → Pg 14 3 128 I' A' (t ++ eRs (gR l 0) (l.drop k)) → mq 67 201 [some (.ref 60), some (.ref 49), some (.int ba), some (.int (nI bg)), some (.int (nI l.length))] [] (hS n u I' A' J B mk sn L xs X) Q) → mq 67 71 [some (.ref 60), some (.ref 49), some (.int ba), some (.int (nI bg)), some (.int (nI k))] [] (hS n u I A J B mk sn L xs X) Q := by
  intro z
  induction z with
  | zero =>
    intro k t I A hz hB hlt hP kk
    refine x_il2 (pc := 71) rfl rfl ?_
    refine x_al1 (pc := 73) rfl rfl ?_
    refine g_60_0 (pc := 74) rfl rfl ?_
    refine g_61_5 (pc := 77) (v := nI l.length) rfl rfl hB.2.2.1 ?_
    refine x_cmpN_ge (pc := 80) (t := 201) rfl rfl (by omega) (by omega) (fun c80 => ?_) (fun c80 => ?_)
    · have hk : k = l.length := by omega
      have e : t ++ eRs (gR l 0) (l.drop k) = t := by
        rw [hk, List.drop_length]
        exact List.append_nil t
      rw [e] at kk
      rw [hk]
      exact kk I A (Fr_refl _ _) (Fr_refl _ _) hP
    · omega
  | succ z ih =>
    intro k t I A hz hB hlt hP kk
    have hk : k < l.length := by omega
    refine x_il2 (pc := 71) rfl rfl ?_
    refine x_al1 (pc := 73) rfl rfl ?_
    refine g_60_0 (pc := 74) rfl rfl ?_
    refine g_61_5 (pc := 77) (v := nI l.length) rfl rfl hB.2.2.1 ?_
    refine x_cmpN_ge (pc := 80) (t := 201) rfl rfl (by omega) (by omega) (fun c80 => ?_) (fun c80 => ?_)
    · omega
    · refine x_al1 (pc := 83) rfl rfl ?_
      refine x_al1 (pc := 84) rfl rfl ?_
      refine g_60_0 (pc := 85) rfl rfl ?_
      refine g_61_0 (pc := 88) rfl rfl ?_
      refine x_il2 (pc := 91) rfl rfl ?_
      refine al_62 (pc := 93) (q := k) (v := (gR l k).1) rfl rfl (by omega) ((hB.2.2.2 k (by omega)).1) ?_
      refine x_al1 (pc := 94) rfl rfl ?_
      refine g_60_0 (pc := 95) rfl rfl ?_
      refine g_61_0 (pc := 98) rfl rfl ?_
      refine x_const (pc := 101) (pc' := 102) (.int (nI 0)) rfl rfl rfl rfl ?_
      refine al_62 (pc := 102) (q := 0) (v := (gR l 0).1) rfl rfl (by omega) ((hB.2.2.2 0 (by omega)).1) ?_
      refine x_isubV (pc := 103) (v := nI (uN (((gR l k).1) - ((gR l 0).1)))) rfl ((nI_uN _).symm) ?_
      refine x_k (pc := 104) rfl rfl rfl ⟨Nat.le_of_ble_eq_true rfl, Nat.le_of_ble_eq_true rfl, Nat.le_of_ble_eq_true rfl⟩ rfl (k_68_49 (I := I) (A := A) (m := uN (((gR l k).1) - ((gR l 0).1))) (l := t) hP (by omega) (uN_lt _) (fun I1 A1 f1 g1 h1 => ?_))
      show mq 67 107 [some (.ref 60), some (.ref 49), some (.int ba), some (.int (nI bg)), some (.int (nI k))] [] (hS n u I1 A1 J B mk sn L xs X) _
      obtain ⟨t1, ht1⟩ : ∃ x, x = t ++ vE 4 (uN (((gR l k).1) - ((gR l 0).1))) := ⟨_, rfl⟩
      rw [← ht1] at h1
      have hn1 : t1.length ≤ t.length + 5 := by rw [ht1]; have := vE_len 4 (uN (((gR l k).1) - ((gR l 0).1))); simp; omega
      refine x_al1 (pc := 107) rfl rfl ?_
      refine x_al1 (pc := 108) rfl rfl ?_
      refine g_60_0 (pc := 109) rfl rfl ?_
      refine g_61_1 (pc := 112) rfl rfl ?_
      refine x_il2 (pc := 115) rfl rfl ?_
      refine al_63 (pc := 117) (q := k) (v := (gR l k).2.1) rfl rfl (by omega) (show _ = _ from by rw [(show Fr [3] A A1 from (Fr_cons (Fr_refl _ _) g1 (by decide))) 26 (by decide)]; exact (hB.2.2.2 k (by omega)).2.1) ?_
      refine x_al1 (pc := 118) rfl rfl ?_
      refine g_60_0 (pc := 119) rfl rfl ?_
      refine g_61_1 (pc := 122) rfl rfl ?_
      refine x_const (pc := 125) (pc' := 126) (.int (nI 0)) rfl rfl rfl rfl ?_
      refine al_63 (pc := 126) (q := 0) (v := (gR l 0).2.1) rfl rfl (by omega) (show _ = _ from by rw [(show Fr [3] A A1 from (Fr_cons (Fr_refl _ _) g1 (by decide))) 26 (by decide)]; exact (hB.2.2.2 0 (by omega)).2.1) ?_
      refine x_isub (pc := 127) rfl rfl ?_
      refine x_k (pc := 128) rfl rfl rfl ⟨Nat.le_of_ble_eq_true rfl, Nat.le_of_ble_eq_true rfl, Nat.le_of_ble_eq_true rfl⟩ rfl (k_69 (I := I1) (A := A1) (x := (((gR l k).2.1) - ((gR l 0).2.1))) ?_)
      show mq 67 131 [some (.ref 60), some (.ref 49), some (.int ba), some (.int (nI bg)), some (.int (nI k))] [.int (nI (zN (((gR l k).2.1) - ((gR l 0).2.1)))), .ref 49] (hS n u I1 A1 J B mk sn L xs X) _
      refine x_k (pc := 131) rfl rfl rfl ⟨Nat.le_of_ble_eq_true rfl, Nat.le_of_ble_eq_true rfl, Nat.le_of_ble_eq_true rfl⟩ rfl (k_68_49 (I := I1) (A := A1) (m := zN (((gR l k).2.1) - ((gR l 0).2.1))) (l := t1) h1 (by omega) (uN_lt _) (fun I2 A2 f2 g2 h2 => ?_))
      show mq 67 134 [some (.ref 60), some (.ref 49), some (.int ba), some (.int (nI bg)), some (.int (nI k))] [] (hS n u I2 A2 J B mk sn L xs X) _
      obtain ⟨t2, ht2⟩ : ∃ x, x = t1 ++ vE 4 (zN (((gR l k).2.1) - ((gR l 0).2.1))) := ⟨_, rfl⟩
      rw [← ht2] at h2
      have hn2 : t2.length ≤ t1.length + 5 := by rw [ht2]; have := vE_len 4 (zN (((gR l k).2.1) - ((gR l 0).2.1))); simp; omega
      refine x_al1 (pc := 134) rfl rfl ?_
      refine x_al1 (pc := 135) rfl rfl ?_
      refine g_60_0 (pc := 136) rfl rfl ?_
      refine g_61_2 (pc := 139) rfl rfl ?_
      refine x_il2 (pc := 142) rfl rfl ?_
      refine al_64 (pc := 144) (q := k) (v := (gR l k).2.2.1) rfl rfl (by omega) (show _ = _ from by rw [(show Fr [3] A A2 from (Fr_cons (Fr_cons (Fr_refl _ _) g1 (by decide)) g2 (by decide))) 27 (by decide)]; exact (hB.2.2.2 k (by omega)).2.2.1) ?_
      refine x_k (pc := 145) rfl rfl rfl ⟨Nat.le_of_ble_eq_true rfl, Nat.le_of_ble_eq_true rfl, Nat.le_of_ble_eq_true rfl⟩ rfl (k_69 (I := I2) (A := A2) (x := ((gR l k).2.2.1)) ?_)
      show mq 67 148 [some (.ref 60), some (.ref 49), some (.int ba), some (.int (nI bg)), some (.int (nI k))] [.int (nI (zN ((gR l k).2.2.1))), .ref 49] (hS n u I2 A2 J B mk sn L xs X) _
      refine x_k (pc := 148) rfl rfl rfl ⟨Nat.le_of_ble_eq_true rfl, Nat.le_of_ble_eq_true rfl, Nat.le_of_ble_eq_true rfl⟩ rfl (k_68_49 (I := I2) (A := A2) (m := zN ((gR l k).2.2.1)) (l := t2) h2 (by omega) (uN_lt _) (fun I3 A3 f3 g3 h3 => ?_))
      show mq 67 151 [some (.ref 60), some (.ref 49), some (.int ba), some (.int (nI bg)), some (.int (nI k))] [] (hS n u I3 A3 J B mk sn L xs X) _
      obtain ⟨t3, ht3⟩ : ∃ x, x = t2 ++ vE 4 (zN ((gR l k).2.2.1)) := ⟨_, rfl⟩
      rw [← ht3] at h3
      have hn3 : t3.length ≤ t2.length + 5 := by rw [ht3]; have := vE_len 4 (zN ((gR l k).2.2.1)); simp; omega
      refine x_al1 (pc := 151) rfl rfl ?_
      refine x_al1 (pc := 152) rfl rfl ?_
      refine g_60_0 (pc := 153) rfl rfl ?_
      refine g_61_4 (pc := 156) rfl rfl ?_
      refine x_il2 (pc := 159) rfl rfl ?_
      refine al_66 (pc := 161) (q := k) (v := (gR l k).2.2.2.2) rfl rfl (by omega) (show _ = _ from by rw [(show Fr [3] A A3 from (Fr_cons (Fr_cons (Fr_cons (Fr_refl _ _) g1 (by decide)) g2 (by decide)) g3 (by decide))) 29 (by decide)]; exact (hB.2.2.2 k (by omega)).2.2.2.2) ?_
      refine x_k (pc := 162) rfl rfl rfl ⟨Nat.le_of_ble_eq_true rfl, Nat.le_of_ble_eq_true rfl, Nat.le_of_ble_eq_true rfl⟩ rfl (k_27_49 (I := I3) (A := A3) (x := (gR l k).2.2.2.2) (l := t3) h3 (by omega) (fun I4 A4 f4 g4 h4 => ?_))
      show mq 67 165 [some (.ref 60), some (.ref 49), some (.int ba), some (.int (nI bg)), some (.int (nI k))] [] (hS n u I4 A4 J B mk sn L xs X) _
      obtain ⟨t4, ht4⟩ : ∃ x, x = t3 ++ [b8 ((gR l k).2.2.2.2)] := ⟨_, rfl⟩
      rw [← ht4] at h4
      have hn4 : t4.length ≤ t3.length + 1 := by rw [ht4]; simp
      refine x_al1 (pc := 165) rfl rfl ?_
      refine g_60_0 (pc := 166) rfl rfl ?_
      refine g_61_4 (pc := 169) rfl rfl ?_
      refine x_il2 (pc := 172) rfl rfl ?_
      refine al_66 (pc := 174) (q := k) (v := (gR l k).2.2.2.2) rfl rfl (by omega) (show _ = _ from by rw [(show Fr [3] A A4 from (Fr_cons (Fr_cons (Fr_cons (Fr_cons (Fr_refl _ _) g1 (by decide)) g2 (by decide)) g3 (by decide)) g4 (by decide))) 29 (by decide)]; exact (hB.2.2.2 k (by omega)).2.2.2.2) ?_
      refine x_if_ne (pc := 175) (t := 195) rfl rfl rfl (fun c175 => ?_) (fun c175 => ?_)
      · refine x_iincN (pc := 195) (c := 1) (ml' := [some (.ref 60), some (.ref 49), some (.int ba), some (.int (nI bg)), some (.int (nI (k + 1)))]) rfl rfl rfl rfl ?_
        refine x_step (pc := 198) (pc' := 71) rfl rfl rfl rfl ?_
        have hd : l.drop k = gR l k :: l.drop (k + 1) := by
          rw [List.drop_eq_getElem_cons hk]
          simp [gR, hk]
        have ev : t ++ eRs (gR l 0) (l.drop k) = t4 ++ eRs (gR l 0) (l.drop (k + 1)) := by
          rw [hd]
          show t ++ (eR (gR l 0) (gR l k) ++ eRs (gR l 0) (l.drop (k + 1))) = _
          unfold eR
          rw [if_neg c175]
          simp only [ht4, ht3, ht2, ht1, List.append_assoc, List.cons_append, List.nil_append, List.append_nil]
        rw [ev] at kk
        exact ih (k + 1) _ (I := I4) (A := A4) (by omega) (BT_fr hB (Fr_cons (Fr_cons (Fr_cons (Fr_cons (Fr_refl _ _) f1 (by decide)) f2 (by decide)) f3 (by decide)) f4 (by decide)) (Fr_cons (Fr_cons (Fr_cons (Fr_cons (Fr_refl _ _) g1 (by decide)) g2 (by decide)) g3 (by decide)) g4 (by decide))) (by omega) h4 (fun I9 A9 f9 g9 h9 => kk I9 A9 (Fr_cons (Fr_cons (Fr_cons (Fr_cons (Fr_cons (Fr_refl _ _) f1 (by decide)) f2 (by decide)) f3 (by decide)) f4 (by decide)) f9 (by decide)) (Fr_cons (Fr_cons (Fr_cons (Fr_cons (Fr_cons (Fr_refl _ _) g1 (by decide)) g2 (by decide)) g3 (by decide)) g4 (by decide)) g9 (by decide)) h9)
      · refine x_al1 (pc := 178) rfl rfl ?_
        refine x_al1 (pc := 179) rfl rfl ?_
        refine g_60_0 (pc := 180) rfl rfl ?_
        refine g_61_3 (pc := 183) rfl rfl ?_
        refine x_il2 (pc := 186) rfl rfl ?_
        refine al_65 (pc := 188) (q := k) (v := (gR l k).2.2.2.1) rfl rfl (by omega) (show _ = _ from by rw [(show Fr [3] A A4 from (Fr_cons (Fr_cons (Fr_cons (Fr_cons (Fr_refl _ _) g1 (by decide)) g2 (by decide)) g3 (by decide)) g4 (by decide))) 28 (by decide)]; exact (hB.2.2.2 k (by omega)).2.2.2.1) ?_
        refine x_k (pc := 189) rfl rfl rfl ⟨Nat.le_of_ble_eq_true rfl, Nat.le_of_ble_eq_true rfl, Nat.le_of_ble_eq_true rfl⟩ rfl (k_69 (I := I4) (A := A4) (x := ((gR l k).2.2.2.1)) ?_)
        show mq 67 192 [some (.ref 60), some (.ref 49), some (.int ba), some (.int (nI bg)), some (.int (nI k))] [.int (nI (zN ((gR l k).2.2.2.1))), .ref 49] (hS n u I4 A4 J B mk sn L xs X) _
        refine x_k (pc := 192) rfl rfl rfl ⟨Nat.le_of_ble_eq_true rfl, Nat.le_of_ble_eq_true rfl, Nat.le_of_ble_eq_true rfl⟩ rfl (k_68_49 (I := I4) (A := A4) (m := zN ((gR l k).2.2.2.1)) (l := t4) h4 (by omega) (uN_lt _) (fun I5 A5 f5 g5 h5 => ?_))
        show mq 67 195 [some (.ref 60), some (.ref 49), some (.int ba), some (.int (nI bg)), some (.int (nI k))] [] (hS n u I5 A5 J B mk sn L xs X) _
        obtain ⟨t5, ht5⟩ : ∃ x, x = t4 ++ vE 4 (zN ((gR l k).2.2.2.1)) := ⟨_, rfl⟩
        rw [← ht5] at h5
        have hn5 : t5.length ≤ t4.length + 5 := by rw [ht5]; have := vE_len 4 (zN ((gR l k).2.2.2.1)); simp; omega
        refine x_iincN (pc := 195) (c := 1) (ml' := [some (.ref 60), some (.ref 49), some (.int ba), some (.int (nI bg)), some (.int (nI (k + 1)))]) rfl rfl rfl rfl ?_
        refine x_step (pc := 198) (pc' := 71) rfl rfl rfl rfl ?_
        have hd : l.drop k = gR l k :: l.drop (k + 1) := by
          rw [List.drop_eq_getElem_cons hk]
          simp [gR, hk]
        have ev : t ++ eRs (gR l 0) (l.drop k) = t5 ++ eRs (gR l 0) (l.drop (k + 1)) := by
          rw [hd]
          show t ++ (eR (gR l 0) (gR l k) ++ eRs (gR l 0) (l.drop (k + 1))) = _
          unfold eR
          rw [if_pos c175]
          simp only [ht5, ht4, ht3, ht2, ht1, List.append_assoc, List.cons_append, List.nil_append, List.append_nil]
        rw [ev] at kk
        exact ih (k + 1) _ (I := I5) (A := A5) (by omega) (BT_fr hB (Fr_cons (Fr_cons (Fr_cons (Fr_cons (Fr_cons (Fr_refl _ _) f1 (by decide)) f2 (by decide)) f3 (by decide)) f4 (by decide)) f5 (by decide)) (Fr_cons (Fr_cons (Fr_cons (Fr_cons (Fr_cons (Fr_refl _ _) g1 (by decide)) g2 (by decide)) g3 (by decide)) g4 (by decide)) g5 (by decide))) (by omega) h5 (fun I9 A9 f9 g9 h9 => kk I9 A9 (Fr_cons (Fr_cons (Fr_cons (Fr_cons (Fr_cons (Fr_cons (Fr_refl _ _) f1 (by decide)) f2 (by decide)) f3 (by decide)) f4 (by decide)) f5 (by decide)) f9 (by decide)) (Fr_cons (Fr_cons (Fr_cons (Fr_cons (Fr_cons (Fr_cons (Fr_refl _ _) g1 (by decide)) g2 (by decide)) g3 (by decide)) g4 (by decide)) g5 (by decide)) g9 (by decide)) h9)
set_option maxRecDepth 100000 in
set_option maxHeartbeats 4000000 in
theorem k_67_3 {ba p s : Int32} {l : List R5} {t : List Nat} (hl1 : 1 ≤ l.length) (hl4 : l.length ≤ 4) (hB : BT 3 I A l p s) (hP : Pg 14 3 128 I A t) (hlt : t.length < 1600) {Q : mO × mHp → Prop} (kk : ∀ I' A', Fr [14] I I' → Fr [3] A A' → Pg 14 3 128 I' A' (t ++ eBt ba p s l) → Q (.inl none, hS n u I' A' J B mk sn L xs X)) : mq 67 0 [some (.ref 60), some (.ref 49), some (.int ba), none, none] [] (hS n u I A J B mk sn L xs X) Q := by
  refine x_al1 (pc := 0) rfl rfl ?_
  refine g_49_1 (pc := 1) (v := nI t.length) rfl rfl hP.1 ?_
  refine x_is1 (pc := 4) (ml' := [some (.ref 60), some (.ref 49), some (.int ba), some (.int (nI t.length)), none]) rfl rfl ?_
  refine x_al1 (pc := 5) rfl rfl ?_
  refine x_const (pc := 6) (pc' := 7) (.int (nI 0)) rfl rfl rfl rfl ?_
  refine x_k (pc := 7) rfl rfl rfl ⟨Nat.le_of_ble_eq_true rfl, Nat.le_of_ble_eq_true rfl, Nat.le_of_ble_eq_true rfl⟩ rfl (k_27_49 (I := I) (A := A) (x := nI 0) (l := t) hP (by omega) (fun I1 A1 f1 g1 h1 => ?_))
  show mq 67 10 [some (.ref 60), some (.ref 49), some (.int ba), some (.int (nI t.length)), none] [] (hS n u I1 A1 J B mk sn L xs X) _
  obtain ⟨t1, ht1⟩ : ∃ x, x = t ++ [b8 (nI 0)] := ⟨_, rfl⟩
  rw [← ht1] at h1
  have hn1 : t1.length ≤ t.length + 1 := by rw [ht1]; simp
  refine x_al1 (pc := 10) rfl rfl ?_
  refine x_al1 (pc := 11) rfl rfl ?_
  refine g_60_0 (pc := 12) rfl rfl ?_
  refine g_61_0 (pc := 15) rfl rfl ?_
  refine x_const (pc := 18) (pc' := 19) (.int (nI 0)) rfl rfl rfl rfl ?_
  refine al_62 (pc := 19) (q := 0) (v := (gR l 0).1) rfl rfl (by omega) (show _ = _ from by rw [(show Fr [3] A A1 from (Fr_cons (Fr_refl _ _) g1 (by decide))) 25 (by decide)]; exact (hB.2.2.2 0 (by omega)).1) ?_
  refine x_il1 (pc := 20) rfl rfl ?_
  refine x_isubV (pc := 21) (v := nI (uN (((gR l 0).1) - ba))) rfl ((nI_uN _).symm) ?_
  refine x_k (pc := 22) rfl rfl rfl ⟨Nat.le_of_ble_eq_true rfl, Nat.le_of_ble_eq_true rfl, Nat.le_of_ble_eq_true rfl⟩ rfl (k_68_49 (I := I1) (A := A1) (m := uN (((gR l 0).1) - ba)) (l := t1) h1 (by omega) (uN_lt _) (fun I2 A2 f2 g2 h2 => ?_))
  show mq 67 25 [some (.ref 60), some (.ref 49), some (.int ba), some (.int (nI t.length)), none] [] (hS n u I2 A2 J B mk sn L xs X) _
  obtain ⟨t2, ht2⟩ : ∃ x, x = t1 ++ vE 4 (uN (((gR l 0).1) - ba)) := ⟨_, rfl⟩
  rw [← ht2] at h2
  have hn2 : t2.length ≤ t1.length + 5 := by rw [ht2]; have := vE_len 4 (uN (((gR l 0).1) - ba)); simp; omega
  refine x_al1 (pc := 25) rfl rfl ?_
  refine x_al1 (pc := 26) rfl rfl ?_
  refine g_60_0 (pc := 27) rfl rfl ?_
  refine g_61_1 (pc := 30) rfl rfl ?_
  refine x_const (pc := 33) (pc' := 34) (.int (nI 0)) rfl rfl rfl rfl ?_
  refine al_63 (pc := 34) (q := 0) (v := (gR l 0).2.1) rfl rfl (by omega) (show _ = _ from by rw [(show Fr [3] A A2 from (Fr_cons (Fr_cons (Fr_refl _ _) g1 (by decide)) g2 (by decide))) 26 (by decide)]; exact (hB.2.2.2 0 (by omega)).2.1) ?_
  refine x_k (pc := 35) rfl rfl rfl ⟨Nat.le_of_ble_eq_true rfl, Nat.le_of_ble_eq_true rfl, Nat.le_of_ble_eq_true rfl⟩ rfl (k_69 (I := I2) (A := A2) (x := ((gR l 0).2.1)) ?_)
  show mq 67 38 [some (.ref 60), some (.ref 49), some (.int ba), some (.int (nI t.length)), none] [.int (nI (zN ((gR l 0).2.1))), .ref 49] (hS n u I2 A2 J B mk sn L xs X) _
  refine x_k (pc := 38) rfl rfl rfl ⟨Nat.le_of_ble_eq_true rfl, Nat.le_of_ble_eq_true rfl, Nat.le_of_ble_eq_true rfl⟩ rfl (k_68_49 (I := I2) (A := A2) (m := zN ((gR l 0).2.1)) (l := t2) h2 (by omega) (uN_lt _) (fun I3 A3 f3 g3 h3 => ?_))
  show mq 67 41 [some (.ref 60), some (.ref 49), some (.int ba), some (.int (nI t.length)), none] [] (hS n u I3 A3 J B mk sn L xs X) _
  obtain ⟨t3, ht3⟩ : ∃ x, x = t2 ++ vE 4 (zN ((gR l 0).2.1)) := ⟨_, rfl⟩
  rw [← ht3] at h3
  have hn3 : t3.length ≤ t2.length + 5 := by rw [ht3]; have := vE_len 4 (zN ((gR l 0).2.1)); simp; omega
  refine x_al1 (pc := 41) rfl rfl ?_
  refine x_al1 (pc := 42) rfl rfl ?_
  refine g_60_1 (pc := 43) (v := p) rfl rfl ((f3 29 (by decide)).trans ((f2 29 (by decide)).trans ((f1 29 (by decide)).trans hB.1))) ?_
  refine x_k (pc := 46) rfl rfl rfl ⟨Nat.le_of_ble_eq_true rfl, Nat.le_of_ble_eq_true rfl, Nat.le_of_ble_eq_true rfl⟩ rfl (k_27_49 (I := I3) (A := A3) (x := p) (l := t3) h3 (by omega) (fun I4 A4 f4 g4 h4 => ?_))
  show mq 67 49 [some (.ref 60), some (.ref 49), some (.int ba), some (.int (nI t.length)), none] [] (hS n u I4 A4 J B mk sn L xs X) _
  obtain ⟨t4, ht4⟩ : ∃ x, x = t3 ++ [b8 (p)] := ⟨_, rfl⟩
  rw [← ht4] at h4
  have hn4 : t4.length ≤ t3.length + 1 := by rw [ht4]; simp
  refine x_al1 (pc := 49) rfl rfl ?_
  refine x_al1 (pc := 50) rfl rfl ?_
  refine g_60_2 (pc := 51) (v := s) rfl rfl ((f4 30 (by decide)).trans ((f3 30 (by decide)).trans ((f2 30 (by decide)).trans ((f1 30 (by decide)).trans hB.2.1)))) ?_
  refine x_top (y := nI (uN s)) ((nI_uN s).symm) ?_
  refine x_k (pc := 54) rfl rfl rfl ⟨Nat.le_of_ble_eq_true rfl, Nat.le_of_ble_eq_true rfl, Nat.le_of_ble_eq_true rfl⟩ rfl (k_68_49 (I := I4) (A := A4) (m := uN s) (l := t4) h4 (by omega) (uN_lt _) (fun I5 A5 f5 g5 h5 => ?_))
  show mq 67 57 [some (.ref 60), some (.ref 49), some (.int ba), some (.int (nI t.length)), none] [] (hS n u I5 A5 J B mk sn L xs X) _
  obtain ⟨t5, ht5⟩ : ∃ x, x = t4 ++ vE 4 (uN s) := ⟨_, rfl⟩
  rw [← ht5] at h5
  have hn5 : t5.length ≤ t4.length + 5 := by rw [ht5]; have := vE_len 4 (uN s); simp; omega
  refine x_al1 (pc := 57) rfl rfl ?_
  refine x_al1 (pc := 58) rfl rfl ?_
  refine g_60_0 (pc := 59) rfl rfl ?_
  refine g_61_5 (pc := 62) (v := nI l.length) rfl rfl ((f5 31 (by decide)).trans ((f4 31 (by decide)).trans ((f3 31 (by decide)).trans ((f2 31 (by decide)).trans ((f1 31 (by decide)).trans hB.2.2.1))))) ?_
  refine x_k (pc := 65) rfl rfl rfl ⟨Nat.le_of_ble_eq_true rfl, Nat.le_of_ble_eq_true rfl, Nat.le_of_ble_eq_true rfl⟩ rfl (k_27_49 (I := I5) (A := A5) (x := nI l.length) (l := t5) h5 (by omega) (fun I6 A6 f6 g6 h6 => ?_))
  show mq 67 68 [some (.ref 60), some (.ref 49), some (.int ba), some (.int (nI t.length)), none] [] (hS n u I6 A6 J B mk sn L xs X) _
  obtain ⟨t6, ht6⟩ : ∃ x, x = t5 ++ [b8 (nI l.length)] := ⟨_, rfl⟩
  rw [← ht6] at h6
  have hn6 : t6.length ≤ t5.length + 1 := by rw [ht6]; simp
  refine x_const (pc := 68) (pc' := 69) (.int (nI 0)) rfl rfl rfl rfl ?_
  refine x_is2 (pc := 69) (ml' := [some (.ref 60), some (.ref 49), some (.int ba), some (.int (nI t.length)), some (.int (nI 0))]) rfl rfl ?_
  refine l_67_3 (I := I6) (A := A6) (bg := t.length) (p := p) (s := s) hl4 l.length 0 t6 (Nat.zero_add _) (BT_fr hB (Fr_cons (Fr_cons (Fr_cons (Fr_cons (Fr_cons (Fr_cons (Fr_refl _ _) f1 (by decide)) f2 (by decide)) f3 (by decide)) f4 (by decide)) f5 (by decide)) f6 (by decide)) (Fr_cons (Fr_cons (Fr_cons (Fr_cons (Fr_cons (Fr_cons (Fr_refl _ _) g1 (by decide)) g2 (by decide)) g3 (by decide)) g4 (by decide)) g5 (by decide)) g6 (by decide))) (by omega) h6 (fun I9 A9 f9 g9 h9 => ?_)
  have e9 : t6 ++ eRs (gR l 0) (l.drop 0) = t ++ (0 :: eCn ba p s l) := by
    rw [List.drop_zero]
    unfold eCn
    simp only [ht6, ht5, ht4, ht3, ht2, ht1, b8_nI, List.append_assoc, List.cons_append, List.nil_append]
  rw [e9] at h9
  have hcl := eCn_len ba p s l
  have hfl : (t ++ (0 :: eCn ba p s l)).length = t.length + 1 + (eCn ba p s l).length := by simp; omega
  refine x_al1 (pc := 201) rfl rfl ?_
  refine x_il1 (pc := 202) rfl rfl ?_
  refine x_al1 (pc := 203) rfl rfl ?_
  refine g_49_1 (pc := 204) (v := nI ((t ++ (0 :: eCn ba p s l)).length)) rfl rfl h9.1 ?_
  refine x_il1 (pc := 207) rfl rfl ?_
  refine x_isubN (pc := 208) rfl ((by omega)) ?_
  refine x_const (pc := 209) (pc' := 210) (.int (nI 1)) rfl rfl rfl rfl ?_
  refine x_isubN (pc := 210) rfl ((by omega)) ?_
  refine x_const (pc := 211) (pc' := 212) (.int (nI 1)) rfl rfl rfl rfl ?_
  refine x_k (pc := 212) rfl rfl rfl ⟨Nat.le_of_ble_eq_true rfl, Nat.le_of_ble_eq_true rfl, Nat.le_of_ble_eq_true rfl⟩ rfl (k_70_1 (I := I9) (A := A9) (p := t.length) (m := (((t ++ (0 :: eCn ba p s l)).length) - t.length) - 1) (l := t ++ (0 :: eCn ba p s l)) h9 (by omega) (by omega) (by omega) (fun I10 A10 f10 g10 h10 => ?_))
  show mq 67 215 [some (.ref 60), some (.ref 49), some (.int ba), some (.int (nI t.length)), some (.int (nI l.length))] [] (hS n u I10 A10 J B mk sn L xs X) _
  refine x_ret (pc := 215) rfl rfl ?_
  rw [set_mid, show (t ++ (0 :: eCn ba p s l)).length - t.length - 1 = (eCn ba p s l).length by omega] at h10
  exact kk I10 A10 (Fr_cons (Fr_cons (Fr_cons (Fr_cons (Fr_cons (Fr_cons (Fr_cons (Fr_cons (Fr_refl _ _) f1 (by decide)) f2 (by decide)) f3 (by decide)) f4 (by decide)) f5 (by decide)) f6 (by decide)) f9 (by decide)) f10 (by decide)) (Fr_cons (Fr_cons (Fr_cons (Fr_cons (Fr_cons (Fr_cons (Fr_cons (Fr_cons (Fr_refl _ _) g1 (by decide)) g2 (by decide)) g3 (by decide)) g4 (by decide)) g5 (by decide)) g6 (by decide)) g9 (by decide)) g10 (by decide)) h10
end S46
