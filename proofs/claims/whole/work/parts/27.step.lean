/-! The reader: open, a record, a batch. -/
/-- nothing but these registers (arrays) has changed -/
def Fr {α : Type} (S : List Nat) (I I' : Nat → α) : Prop := ∀ r, r ∉ S → I' r = I r
theorem Fr_refl {α : Type} (S : List Nat) (I : Nat → α) : Fr S I I := fun _ _ => rfl
theorem Fr_u {α : Type} {S : List Nat} {I I' : Nat → α} {k : Nat} {x : α} (h : Fr S I I') (hk : k ∈ S) : Fr S I (va_up I' k x) := fun r hr => by
  unfold va_up
  have hne : ¬ r = k := fun e => hr (by rw [e]; exact hk)
  rw [if_neg hne]
  exact h r hr
theorem Fr_cons {α : Type} {S S' : List Nat} {I I1 I2 : Nat → α} (h : Fr S I I1) (f : Fr S' I1 I2) (hs : ∀ x ∈ S', x ∈ S) : Fr S I I2 := fun r hr => (f r (fun q => hr (hs r q))).trans (h r hr)
theorem Fr_up {α : Type} (I : Nat → α) (k : Nat) (x : α) : Fr [k] I (va_up I k x) := Fr_u (Fr_refl _ _) (List.mem_singleton.mpr rfl)
/-- a record at q: bytes up to its second, third, fourth field, all; its fields -/
def rl1 (D : Nat → Nat) (q : Nat) : Nat := lV D q
def rl2 (D : Nat → Nat) (q : Nat) : Nat := rl1 D q + lV D (q + rl1 D q)
def rl3 (D : Nat → Nat) (q : Nat) : Nat := rl2 D q + lV D (q + rl2 D q)
def rDl (D : Nat → Nat) (q : Nat) : Nat := D (q + rl3 D q)
def rl (D : Nat → Nat) (q : Nat) : Nat := if rDl D q = 0 then rl3 D q + 1 + lV D (q + rl3 D q + 1) else rl3 D q + 1
def rO (D : Nat → Nat) (q : Nat) : Int32 := rV D q
def rT (D : Nat → Nat) (q : Nat) : Int32 := uz (rV D (q + rl1 D q))
def rK (D : Nat → Nat) (q : Nat) : Int32 := uz (rV D (q + rl2 D q))
def rW (D : Nat → Nat) (q : Nat) : Int32 := if rDl D q = 0 then uz (rV D (q + rl3 D q + 1)) else 0
theorem rl1_le (D : Nat → Nat) (q : Nat) : rl1 D q ≤ 5 := lV_le D q
theorem rl2_le (D : Nat → Nat) (q : Nat) : rl2 D q ≤ 10 := by
  have h1 := rl1_le D q
  have h2 := lV_le D (q + rl1 D q)
  unfold rl2
  omega
theorem rl3_le (D : Nat → Nat) (q : Nat) : rl3 D q ≤ 15 := by
  have h1 := rl2_le D q
  have h2 := lV_le D (q + rl2 D q)
  unfold rl3
  omega
theorem rl_le (D : Nat → Nat) (q : Nat) : rl D q ≤ 21 := by
  have h1 := rl3_le D q
  have h2 := lV_le D (q + rl3 D q + 1)
  unfold rl
  split <;> omega
/-- a batch at q: where its fields are -/
def bp2 (D : Nat → Nat) (q : Nat) : Nat := q + 1 + lV D (q + 1)
def bp3 (D : Nat → Nat) (q : Nat) : Nat := bp2 D q + lV D (bp2 D q)
def bp5 (D : Nat → Nat) (q : Nat) : Nat := bp3 D q + 1 + lV D (bp3 D q + 1)
def bN (D : Nat → Nat) (q : Nat) : Nat := D (bp5 D q)
def bO (D : Nat → Nat) (q : Nat) : Int32 := rV D (q + 1)
def bT (D : Nat → Nat) (q : Nat) : Int32 := uz (rV D (bp2 D q))
def bP (D : Nat → Nat) (q : Nat) : Nat := D (bp3 D q)
def bS (D : Nat → Nat) (q : Nat) : Int32 := rV D (bp3 D q + 1)
/-- where its k-th record begins -/
def rq (D : Nat → Nat) (q : Nat) : Nat → Nat
  | 0 => bp5 D q + 1
  | k + 1 => rq D q k + rl D (rq D q k)
theorem bp2_le (D : Nat → Nat) (q : Nat) : bp2 D q ≤ q + 6 ∧ q < bp2 D q := by
  have := lV_le D (q + 1)
  unfold bp2
  omega
theorem bp3_le (D : Nat → Nat) (q : Nat) : bp3 D q ≤ q + 11 ∧ q < bp3 D q := by
  have h1 := lV_le D (bp2 D q)
  have h2 := bp2_le D q
  unfold bp3
  omega
theorem bp5_le (D : Nat → Nat) (q : Nat) : bp5 D q ≤ q + 17 ∧ q < bp5 D q := by
  have h1 := lV_le D (bp3 D q + 1)
  have h2 := bp3_le D q
  unfold bp5
  omega
theorem rq_le (D : Nat → Nat) (q : Nat) : ∀ k, rq D q k ≤ q + 18 + 21 * k ∧ q < rq D q k
  | 0 => by
    have := bp5_le D q
    unfold rq
    omega
  | k + 1 => by
    have h1 := rq_le D q k
    have h2 := rl_le D (rq D q k)
    unfold rq
    omega
def oR (D : Nat → Nat) (b q k : Nat) : Int32 := nI b + bO D q + rO D (rq D q k)
def tR (D : Nat → Nat) (q k : Nat) : Int32 := bT D q + rT D (rq D q k)
def kR (D : Nat → Nat) (q k : Nat) : Int32 := rK D (rq D q k)
def vR (D : Nat → Nat) (q k : Nat) : Int32 := rW D (rq D q k)
def dR (D : Nat → Nat) (q k : Nat) : Nat := rDl D (rq D q k)
/-- the reader's batch holds m records of the batch at q -/
def RBn (A : Nat → Nat → Int32) (D : Nat → Nat) (b q m : Nat) : Prop := ∀ k, k < m → A 10 k = oR D b q k ∧ A 11 k = tR D q k ∧ A 12 k = kR D q k ∧ A 13 k = vR D q k ∧ A 14 k = nI (dR D q k)
def RB (I : Nat → Int32) (A : Nat → Nat → Int32) (D : Nat → Nat) (b q : Nat) : Prop := I 20 = nI (bP D q) ∧ I 21 = bS D q ∧ I 22 = nI (bN D q) ∧ RBn A D b q (bN D q)
theorem nI_gap {p e : Nat} (hp : p < 2 ^ 20) (he : e < 2 ^ 20) : (nI 40 ≤ nI p - (nI e - nI 40)) ↔ e ≤ p := by
  have h1 : (nI e - nI 40).toInt = (e : Int) - 40 := pk_sub_toInt (by omega) (by decide)
  have h2 : (nI p - (nI e - nI 40)).toInt = (p : Int) - (e - 40) := by
    rw [Int32.toInt_sub, h1, nI_toInt (by omega)]
    apply Int.bmod_eq_of_le <;> omega
  rw [Int32.le_iff_toInt_le, h2, nI_toInt (by decide)]
  omega
section S27
variable {n u : Nat} {I : Nat → Int32} {A : Nat → Nat → Int32} {J : Int64} {B : Nat → Int64} {mk sn L : Nat} {xs : Nat → Int32} {X : Nat → mC} {D : Nat → Nat} 
set_option maxRecDepth 100000 in
set_option maxHeartbeats 4000000 in
theorem k_40 (h : DK (A 0) D) {sp p q : Nat} (h4 : I 4 = nI sp) (h8 : I 8 = nI p) (hq : sp + p = q) (hp : q < 2 ^ 31) {Q : mO × mHp → Prop} (k : ∀ I', Fr [8] I I' → I' 8 = nI (p + 1) → Q (.inl (some (.int (nI (D q)))), hS n u I' A J B mk sn L xs X)) : mq 40 0 [some (.ref 4), none] [] (hS n u I A J B mk sn L xs X) Q := by
  subst hq
  exact mq_k (c_40 h h4 h8 hp) (k _ (Fr_up _ _ _) (va_up_self _ _ _))
set_option maxRecDepth 100000 in
set_option maxHeartbeats 4000000 in
theorem k_41 (h : DK (A 0) D) {sp p q : Nat} (h4 : I 4 = nI sp) (h8 : I 8 = nI p) (hq : sp + p = q) (hp : q + 5 < 2 ^ 31) {Q : mO × mHp → Prop} (k : ∀ I', Fr [8] I I' → I' 8 = nI (p + lV D q) → Q (.inl (some (.int (rV D q))), hS n u I' A J B mk sn L xs X)) : mq 41 0 [some (.ref 4), none, none, none] [] (hS n u I A J B mk sn L xs X) Q := by
  subst hq
  exact mq_k (c_41 h h4 h8 hp) (k _ (Fr_up _ _ _) (va_up_self _ _ _))
set_option maxRecDepth 100000 in
set_option maxHeartbeats 4000000 in
theorem k_36 (h : DK (A 0) D) {k f : Nat} (hk : k < 16) (hm : mB D k ≤ 128) {Q : mO × mHp → Prop} (kk : ∀ I', Fr [4, 5, 6, 8, 9] I I' → I' 4 = nI (128 * k) → I' 5 = nI (bB D k) → I' 6 = nI (mB D k) → I' 8 = nI f → I' 9 = nI f - nI 40 → Q (.inl none, hS n u I' A J B mk sn L xs X)) : mq 36 0 [some (.ref 4), some (.int (nI k)), some (.int (nI f))] [] (hS n u I A J B mk sn L xs X) Q := by
  refine x_al1 (pc := 0) rfl rfl ?_
  refine x_il1 (pc := 1) rfl rfl ?_
  refine x_const (pc := 2) (pc' := 5) (.int (nI 128)) rfl rfl rfl rfl ?_
  refine x_imulV (pc := 5) (v := nI (128 * k)) rfl ((pk_mul k 128).trans (congrArg nI (Nat.mul_comm _ _))) ?_
  refine p_4_2 (pc := 6) rfl rfl ?_
  refine x_al1 (pc := 9) rfl rfl ?_
  refine x_al1 (pc := 10) rfl rfl ?_
  refine g_4_0 (pc := 11) rfl rfl ?_
  refine x_il1 (pc := 14) rfl rfl ?_
  refine x_k (pc := 15) rfl rfl rfl ⟨Nat.le_of_ble_eq_true rfl, Nat.le_of_ble_eq_true rfl, Nat.le_of_ble_eq_true rfl⟩ rfl (mq_k (c_22 h hk) ?_)
  show mq 36 18 [some (.ref 4), some (.int (nI k)), some (.int (nI f))] [.int (nI (bB D k)), .ref 4] (hS n u (va_up I 4 (nI (128 * k))) A J B mk sn L xs X) _
  refine p_4_3 (pc := 18) rfl rfl ?_
  refine x_al1 (pc := 21) rfl rfl ?_
  refine x_al1 (pc := 22) rfl rfl ?_
  refine g_4_0 (pc := 23) rfl rfl ?_
  refine x_il1 (pc := 26) rfl rfl ?_
  refine x_k (pc := 27) rfl rfl rfl ⟨Nat.le_of_ble_eq_true rfl, Nat.le_of_ble_eq_true rfl, Nat.le_of_ble_eq_true rfl⟩ rfl (mq_k (c_37 h hk) ?_)
  show mq 36 30 [some (.ref 4), some (.int (nI k)), some (.int (nI f))] [.int (nI (mB D k)), .ref 4] (hS n u (va_up (va_up I 4 (nI (128 * k))) 5 (nI (bB D k))) A J B mk sn L xs X) _
  refine x_const (pc := 30) (pc' := 33) (.int (nI 128)) rfl rfl rfl rfl ?_
  refine x_k (pc := 33) rfl rfl rfl ⟨Nat.le_of_ble_eq_true rfl, Nat.le_of_ble_eq_true rfl, Nat.le_of_ble_eq_true rfl⟩ rfl (mq_k (c_38 _ _) ?_)
  show mq 36 36 [some (.ref 4), some (.int (nI k)), some (.int (nI f))] [.int (if nI 128 < nI (mB D k) then nI 128 else nI (mB D k)), .ref 4] (hS n u (va_up (va_up I 4 (nI (128 * k))) 5 (nI (bB D k))) A J B mk sn L xs X) _
  refine x_top (y := nI (mB D k)) (if_neg (nI_nlt (a := 128) hm (by decide))) ?_
  refine p_4_4 (pc := 36) rfl rfl ?_
  refine x_al1 (pc := 39) rfl rfl ?_
  refine x_il1 (pc := 40) rfl rfl ?_
  refine p_4_6 (pc := 41) rfl rfl ?_
  refine x_al1 (pc := 44) rfl rfl ?_
  refine x_il1 (pc := 45) rfl rfl ?_
  refine x_const (pc := 46) (pc' := 48) (.int (nI 40)) rfl rfl rfl rfl ?_
  refine x_isub (pc := 48) rfl rfl ?_
  refine p_4_7 (pc := 49) rfl rfl ?_
  refine x_ret (pc := 52) rfl rfl ?_
  exact kk _ (Fr_u (Fr_u (Fr_u (Fr_u (Fr_u (Fr_refl _ _) (by decide)) (by decide)) (by decide)) (by decide)) (by decide)) rfl rfl rfl rfl rfl
set_option maxRecDepth 100000 in
set_option maxHeartbeats 4000000 in
theorem k_44 (h : DK (A 0) D) {sp p m : Nat} (h4 : I 4 = nI sp) (h8 : I 8 = nI p) (hc : I 22 = nI m) (hm : m < 4) (hp : sp + p + 40 < 2 ^ 31) (fo ft : Int32) {Q : mO × mHp → Prop} (kk : ∀ I' A', Fr [8, 22] I I' → Fr [10, 11, 12, 13, 14] A A' → A' 10 = upd (A 10) m (fo + rO D (sp + p)) → A' 11 = upd (A 11) m (ft + rT D (sp + p)) → A' 12 = upd (A 12) m (rK D (sp + p)) → A' 13 = upd (A 13) m (rW D (sp + p)) → A' 14 = upd (A 14) m (nI (rDl D (sp + p))) → I' 22 = nI (m + 1) → I' 8 = nI (p + rl D (sp + p)) → Q (.inl none, hS n u I' A' J B mk sn L xs X)) : mq 44 0 [some (.ref 4), some (.int fo), some (.int ft), none, none, none, none, none] [] (hS n u I A J B mk sn L xs X) Q := by
  have b1 := rl1_le D (sp + p)
  have b2 := rl2_le D (sp + p)
  have b3 := rl3_le D (sp + p)
  refine x_il1 (pc := 0) rfl rfl ?_
  refine x_al1 (pc := 1) rfl rfl ?_
  refine x_k (pc := 2) rfl rfl rfl ⟨Nat.le_of_ble_eq_true rfl, Nat.le_of_ble_eq_true rfl, Nat.le_of_ble_eq_true rfl⟩ rfl (k_41 (I := I) (sp := sp) (p := p) (q := sp + p) h h4 h8 (by omega) (by omega) (fun I1 f1 e1 => ?_))
  show mq 44 5 [some (.ref 4), some (.int fo), some (.int ft), none, none, none, none, none] [.int (rV D (sp + p)), .int fo] (hS n u I1 A J B mk sn L xs X) _
  refine x_iadd (pc := 5) rfl rfl ?_
  refine x_is1 (pc := 6) (ml' := [some (.ref 4), some (.int fo), some (.int ft), some (.int (fo + (rV D (sp + p)))), none, none, none, none]) rfl rfl ?_
  refine x_il1 (pc := 7) rfl rfl ?_
  refine x_al1 (pc := 8) rfl rfl ?_
  refine x_k (pc := 9) rfl rfl rfl ⟨Nat.le_of_ble_eq_true rfl, Nat.le_of_ble_eq_true rfl, Nat.le_of_ble_eq_true rfl⟩ rfl (k_41 (I := I1) (sp := sp) (p := p + rl1 D (sp + p)) (q := sp + p + rl1 D (sp + p)) h ((f1 4 (by decide)).trans h4) e1 (by omega) (by omega) (fun I2 f2 e2 => ?_))
  show mq 44 12 [some (.ref 4), some (.int fo), some (.int ft), some (.int (fo + (rV D (sp + p)))), none, none, none, none] [.int (rV D (sp + p + rl1 D (sp + p))), .int ft] (hS n u I2 A J B mk sn L xs X) _
  refine x_k (pc := 12) rfl rfl rfl ⟨Nat.le_of_ble_eq_true rfl, Nat.le_of_ble_eq_true rfl, Nat.le_of_ble_eq_true rfl⟩ rfl (mq_k (c_42 _) ?_)
  show mq 44 15 [some (.ref 4), some (.int fo), some (.int ft), some (.int (fo + (rV D (sp + p)))), none, none, none, none] [.int (uz (rV D (sp + p + rl1 D (sp + p)))), .int ft] (hS n u I2 A J B mk sn L xs X) _
  refine x_iadd (pc := 15) rfl rfl ?_
  refine x_is2 (pc := 16) (ml' := [some (.ref 4), some (.int fo), some (.int ft), some (.int (fo + (rV D (sp + p)))), some (.int (ft + (uz (rV D (sp + p + rl1 D (sp + p)))))), none, none, none]) rfl rfl ?_
  refine x_al1 (pc := 18) rfl rfl ?_
  refine x_k (pc := 19) rfl rfl rfl ⟨Nat.le_of_ble_eq_true rfl, Nat.le_of_ble_eq_true rfl, Nat.le_of_ble_eq_true rfl⟩ rfl (k_41 (I := I2) (sp := sp) (p := p + rl2 D (sp + p)) (q := sp + p + rl2 D (sp + p)) h ((f2 4 (by decide)).trans ((f1 4 (by decide)).trans h4)) (e2.trans (congrArg nI (show p + rl1 D (sp + p) + lV D (sp + p + rl1 D (sp + p)) = p + rl2 D (sp + p) from by unfold rl2; omega))) (by omega) (by omega) (fun I3 f3 e3 => ?_))
  show mq 44 22 [some (.ref 4), some (.int fo), some (.int ft), some (.int (fo + (rV D (sp + p)))), some (.int (ft + (uz (rV D (sp + p + rl1 D (sp + p)))))), none, none, none] [.int (rV D (sp + p + rl2 D (sp + p)))] (hS n u I3 A J B mk sn L xs X) _
  refine x_k (pc := 22) rfl rfl rfl ⟨Nat.le_of_ble_eq_true rfl, Nat.le_of_ble_eq_true rfl, Nat.le_of_ble_eq_true rfl⟩ rfl (mq_k (c_42 _) ?_)
  show mq 44 25 [some (.ref 4), some (.int fo), some (.int ft), some (.int (fo + (rV D (sp + p)))), some (.int (ft + (uz (rV D (sp + p + rl1 D (sp + p)))))), none, none, none] [.int (uz (rV D (sp + p + rl2 D (sp + p))))] (hS n u I3 A J B mk sn L xs X) _
  refine x_is2 (pc := 25) (ml' := [some (.ref 4), some (.int fo), some (.int ft), some (.int (fo + (rV D (sp + p)))), some (.int (ft + (uz (rV D (sp + p + rl1 D (sp + p)))))), some (.int (uz (rV D (sp + p + rl2 D (sp + p))))), none, none]) rfl rfl ?_
  refine x_al1 (pc := 27) rfl rfl ?_
  refine x_k (pc := 28) rfl rfl rfl ⟨Nat.le_of_ble_eq_true rfl, Nat.le_of_ble_eq_true rfl, Nat.le_of_ble_eq_true rfl⟩ rfl (k_40 (I := I3) (sp := sp) (p := p + rl3 D (sp + p)) (q := sp + p + rl3 D (sp + p)) h ((f3 4 (by decide)).trans ((f2 4 (by decide)).trans ((f1 4 (by decide)).trans h4))) (e3.trans (congrArg nI (show p + rl2 D (sp + p) + lV D (sp + p + rl2 D (sp + p)) = p + rl3 D (sp + p) from by unfold rl3; omega))) (by omega) (by omega) (fun I4 f4 e4 => ?_))
  show mq 44 31 [some (.ref 4), some (.int fo), some (.int ft), some (.int (fo + (rV D (sp + p)))), some (.int (ft + (uz (rV D (sp + p + rl1 D (sp + p)))))), some (.int (uz (rV D (sp + p + rl2 D (sp + p))))), none, none] [.int (nI (D (sp + p + rl3 D (sp + p))))] (hS n u I4 A J B mk sn L xs X) _
  refine x_is2 (pc := 31) (ml' := [some (.ref 4), some (.int fo), some (.int ft), some (.int (fo + (rV D (sp + p)))), some (.int (ft + (uz (rV D (sp + p + rl1 D (sp + p)))))), some (.int (uz (rV D (sp + p + rl2 D (sp + p))))), some (.int (nI (D (sp + p + rl3 D (sp + p))))), none]) rfl rfl ?_
  refine x_il2 (pc := 33) rfl rfl ?_
  refine x_ifN_ne (pc := 35) (t := 48) rfl rfl (Nat.lt_trans (h.2.1 _) (by decide)) (fun c35 => ?_) (fun c35 => ?_)
  · refine x_const (pc := 48) (pc' := 49) (.int (nI 0)) rfl rfl rfl rfl ?_
    refine x_top (y := rW D (sp + p)) ((if_neg (show ¬ rDl D (sp + p) = 0 from c35)).symm) ?_
    refine x_is2 (pc := 49) (ml' := [some (.ref 4), some (.int fo), some (.int ft), some (.int (fo + (rV D (sp + p)))), some (.int (ft + (uz (rV D (sp + p + rl1 D (sp + p)))))), some (.int (uz (rV D (sp + p + rl2 D (sp + p))))), some (.int (nI (D (sp + p + rl3 D (sp + p))))), some (.int (rW D (sp + p)))]) rfl rfl ?_
    refine x_al1 (pc := 51) rfl rfl ?_
    refine g_4_1 (pc := 52) rfl rfl ?_
    refine g_5_0 (pc := 55) rfl rfl ?_
    refine x_il1 (pc := 58) rfl rfl ?_
    refine x_il2 (pc := 59) rfl rfl ?_
    refine x_il2 (pc := 61) rfl rfl ?_
    refine x_il2 (pc := 63) rfl rfl ?_
    refine x_il2 (pc := 65) rfl rfl ?_
    refine x_k (pc := 67) rfl rfl rfl ⟨Nat.le_of_ble_eq_true rfl, Nat.le_of_ble_eq_true rfl, Nat.le_of_ble_eq_true rfl⟩ rfl (mq_k (c_12_6 (m := m) ((f4 22 (by decide)).trans ((f3 22 (by decide)).trans ((f2 22 (by decide)).trans ((f1 22 (by decide)).trans hc)))) hm _ _ _ _ _) ?_)
    show mq 44 70 [some (.ref 4), some (.int fo), some (.int ft), some (.int (fo + (rV D (sp + p)))), some (.int (ft + (uz (rV D (sp + p + rl1 D (sp + p)))))), some (.int (uz (rV D (sp + p + rl2 D (sp + p))))), some (.int (nI (D (sp + p + rl3 D (sp + p))))), some (.int (rW D (sp + p)))] [.int (nI 1)] (hS n u (va_up I4 22 (nI (m + 1))) (va_up (va_up (va_up (va_up (va_up A 10 (upd (A 10) m (fo + (rV D (sp + p))))) 11 (upd (A 11) m (ft + (uz (rV D (sp + p + rl1 D (sp + p))))))) 12 (upd (A 12) m (uz (rV D (sp + p + rl2 D (sp + p)))))) 13 (upd (A 13) m (rW D (sp + p)))) 14 (upd (A 14) m (nI (D (sp + p + rl3 D (sp + p)))))) J B mk sn L xs X) _
    refine x_step (pc := 70) (pc' := 71) (st' := []) rfl rfl rfl rfl ?_
    refine x_ret (pc := 71) rfl rfl ?_
    exact kk _ _ (Fr_u (Fr_cons (Fr_cons (Fr_cons (Fr_cons (Fr_refl _ _) f1 (by decide)) f2 (by decide)) f3 (by decide)) f4 (by decide)) (by decide)) (Fr_u (Fr_u (Fr_u (Fr_u (Fr_u (Fr_refl _ _) (by decide)) (by decide)) (by decide)) (by decide)) (by decide)) rfl rfl rfl rfl rfl rfl (e4|>.trans (congrArg nI (show p + rl3 D (sp + p) + 1 = p + rl D (sp + p) from by unfold rl; rw [if_neg (show ¬ rDl D (sp + p) = 0 from c35)]; omega)))
  · refine x_al1 (pc := 38) rfl rfl ?_
    refine x_k (pc := 39) rfl rfl rfl ⟨Nat.le_of_ble_eq_true rfl, Nat.le_of_ble_eq_true rfl, Nat.le_of_ble_eq_true rfl⟩ rfl (k_41 (I := I4) (sp := sp) (p := p + rl3 D (sp + p) + 1) (q := sp + p + rl3 D (sp + p) + 1) h ((f4 4 (by decide)).trans ((f3 4 (by decide)).trans ((f2 4 (by decide)).trans ((f1 4 (by decide)).trans h4)))) e4 (by omega) (by omega) (fun I5 f5 e5 => ?_))
    show mq 44 42 [some (.ref 4), some (.int fo), some (.int ft), some (.int (fo + (rV D (sp + p)))), some (.int (ft + (uz (rV D (sp + p + rl1 D (sp + p)))))), some (.int (uz (rV D (sp + p + rl2 D (sp + p))))), some (.int (nI (D (sp + p + rl3 D (sp + p))))), none] [.int (rV D (sp + p + rl3 D (sp + p) + 1))] (hS n u I5 A J B mk sn L xs X) _
    refine x_k (pc := 42) rfl rfl rfl ⟨Nat.le_of_ble_eq_true rfl, Nat.le_of_ble_eq_true rfl, Nat.le_of_ble_eq_true rfl⟩ rfl (mq_k (c_42 _) ?_)
    show mq 44 45 [some (.ref 4), some (.int fo), some (.int ft), some (.int (fo + (rV D (sp + p)))), some (.int (ft + (uz (rV D (sp + p + rl1 D (sp + p)))))), some (.int (uz (rV D (sp + p + rl2 D (sp + p))))), some (.int (nI (D (sp + p + rl3 D (sp + p))))), none] [.int (uz (rV D (sp + p + rl3 D (sp + p) + 1)))] (hS n u I5 A J B mk sn L xs X) _
    refine x_top (y := rW D (sp + p)) ((if_pos (show rDl D (sp + p) = 0 from c35)).symm) ?_
    refine x_step (pc := 45) (pc' := 49) rfl rfl rfl rfl ?_
    refine x_is2 (pc := 49) (ml' := [some (.ref 4), some (.int fo), some (.int ft), some (.int (fo + (rV D (sp + p)))), some (.int (ft + (uz (rV D (sp + p + rl1 D (sp + p)))))), some (.int (uz (rV D (sp + p + rl2 D (sp + p))))), some (.int (nI (D (sp + p + rl3 D (sp + p))))), some (.int (rW D (sp + p)))]) rfl rfl ?_
    refine x_al1 (pc := 51) rfl rfl ?_
    refine g_4_1 (pc := 52) rfl rfl ?_
    refine g_5_0 (pc := 55) rfl rfl ?_
    refine x_il1 (pc := 58) rfl rfl ?_
    refine x_il2 (pc := 59) rfl rfl ?_
    refine x_il2 (pc := 61) rfl rfl ?_
    refine x_il2 (pc := 63) rfl rfl ?_
    refine x_il2 (pc := 65) rfl rfl ?_
    refine x_k (pc := 67) rfl rfl rfl ⟨Nat.le_of_ble_eq_true rfl, Nat.le_of_ble_eq_true rfl, Nat.le_of_ble_eq_true rfl⟩ rfl (mq_k (c_12_6 (m := m) ((f5 22 (by decide)).trans ((f4 22 (by decide)).trans ((f3 22 (by decide)).trans ((f2 22 (by decide)).trans ((f1 22 (by decide)).trans hc))))) hm _ _ _ _ _) ?_)
    show mq 44 70 [some (.ref 4), some (.int fo), some (.int ft), some (.int (fo + (rV D (sp + p)))), some (.int (ft + (uz (rV D (sp + p + rl1 D (sp + p)))))), some (.int (uz (rV D (sp + p + rl2 D (sp + p))))), some (.int (nI (D (sp + p + rl3 D (sp + p))))), some (.int (rW D (sp + p)))] [.int (nI 1)] (hS n u (va_up I5 22 (nI (m + 1))) (va_up (va_up (va_up (va_up (va_up A 10 (upd (A 10) m (fo + (rV D (sp + p))))) 11 (upd (A 11) m (ft + (uz (rV D (sp + p + rl1 D (sp + p))))))) 12 (upd (A 12) m (uz (rV D (sp + p + rl2 D (sp + p)))))) 13 (upd (A 13) m (rW D (sp + p)))) 14 (upd (A 14) m (nI (D (sp + p + rl3 D (sp + p)))))) J B mk sn L xs X) _
    refine x_step (pc := 70) (pc' := 71) (st' := []) rfl rfl rfl rfl ?_
    refine x_ret (pc := 71) rfl rfl ?_
    exact kk _ _ (Fr_u (Fr_cons (Fr_cons (Fr_cons (Fr_cons (Fr_cons (Fr_refl _ _) f1 (by decide)) f2 (by decide)) f3 (by decide)) f4 (by decide)) f5 (by decide)) (by decide)) (Fr_u (Fr_u (Fr_u (Fr_u (Fr_u (Fr_refl _ _) (by decide)) (by decide)) (by decide)) (by decide)) (by decide)) rfl rfl rfl rfl rfl rfl (e5.trans (congrArg nI (show p + rl3 D (sp + p) + 1 + lV D (sp + p + rl3 D (sp + p) + 1) = p + rl D (sp + p) from by unfold rl; rw [if_pos (show rDl D (sp + p) = 0 from c35)]; omega)))
theorem RBn_s {A A' : Nat → Nat → Int32} {D : Nat → Nat} {b q m : Nat} (h : RBn A D b q m) (e0 : A' 10 = upd (A 10) m (oR D b q m)) (e1 : A' 11 = upd (A 11) m (tR D q m)) (e2 : A' 12 = upd (A 12) m (kR D q m)) (e3 : A' 13 = upd (A 13) m (vR D q m)) (e4 : A' 14 = upd (A 14) m (nI (dR D q m))) : RBn A' D b q (m + 1) := by
  intro k hk
  rw [e0, e1, e2, e3, e4]
  by_cases hkm : k = m
  · subst hkm
    exact ⟨pk_us, pk_us, pk_us, pk_us, pk_us⟩
  · rw [pk_un hkm, pk_un hkm, pk_un hkm, pk_un hkm, pk_un hkm]
    exact h k (by omega)
set_option maxRecDepth 100000 in
set_option maxHeartbeats 4000000 in
theorem l_39 {sp b q m en : Nat} (pr : Int32) (hm : m ≤ 4) (hq : q < 2 ^ 20) {Q : mO × mHp → Prop} : ∀ (z j p : Nat) {I : Nat → Int32} {A : Nat → Nat → Int32} (_ : DK (A 0) D), j + z = m → I 4 = nI sp → I 8 = nI p → I 22 = nI j → sp + p = rq D q j → RBn A D b q j → (∀ I' A', Fr [8, 22] I I' → Fr [10, 11, 12, 13, 14] A A' → I' 22 = nI m → RBn A' D b q m → mq 39 151 [some (.ref 4), some (.int (nI en)), some (.int (nI b + bO D q)), some (.int (bT D q)), some (.int pr), some (.int (nI m)), some (.int (nI m))] [] (hS n u I' A' J B mk sn L xs X) Q) → mq 39 132 [some (.ref 4), some (.int (nI en)), some (.int (nI b + bO D q)), some (.int (bT D q)), some (.int pr), some (.int (nI m)), some (.int (nI j))] [] (hS n u I A J B mk sn L xs X) Q := by
  intro z
  induction z with
  | zero =>
    intro j p I A h hz h4 h8 hc hp hr k
    have hj : j = m := by omega
    subst hj
    refine x_il2 (pc := 132) rfl rfl ?_
    refine x_il2 (pc := 134) rfl rfl ?_
    refine x_cmpN_ge (pc := 136) (t := 151) rfl rfl (by omega) (by omega) (fun c136 => ?_) (fun c136 => ?_)
    · exact k I A (Fr_refl _ _) (Fr_refl _ _) hc hr
    · omega
  | succ z ih =>
    intro j p I A h hz h4 h8 hc hp hr k
    have hrq := rq_le D q j
    refine x_il2 (pc := 132) rfl rfl ?_
    refine x_il2 (pc := 134) rfl rfl ?_
    refine x_cmpN_ge (pc := 136) (t := 151) rfl rfl (by omega) (by omega) (fun c136 => ?_) (fun c136 => ?_)
    · omega
    · refine x_al1 (pc := 139) rfl rfl ?_
      refine x_il1 (pc := 140) rfl rfl ?_
      refine x_il1 (pc := 141) rfl rfl ?_
      refine x_k (pc := 142) rfl rfl rfl ⟨Nat.le_of_ble_eq_true rfl, Nat.le_of_ble_eq_true rfl, Nat.le_of_ble_eq_true rfl⟩ rfl (k_44 (sp := sp) (p := p) (m := j) h h4 h8 hc (by omega) (by omega) _ _ (fun I1 A1 f1 g1 a0 a1 a2 a3 a4 e1 e2 => ?_))
      show mq 39 145 [some (.ref 4), some (.int (nI en)), some (.int (nI b + bO D q)), some (.int (bT D q)), some (.int pr), some (.int (nI m)), some (.int (nI j))] [] (hS n u I1 A1 J B mk sn L xs X) _
      refine x_iincN (pc := 145) (c := 1) (ml' := [some (.ref 4), some (.int (nI en)), some (.int (nI b + bO D q)), some (.int (bT D q)), some (.int pr), some (.int (nI m)), some (.int (nI (j + 1)))]) rfl rfl rfl rfl ?_
      refine x_step (pc := 148) (pc' := 132) rfl rfl rfl rfl ?_
      exact ih (j + 1) (p + rl D (sp + p)) (I := I1) (A := A1) (by rw [g1 0 (by decide)]; exact h) (by omega) ((f1 4 (by decide)).trans h4) e2 e1 (by show sp + (p + rl D (sp + p)) = rq D q j + rl D (rq D q j); rw [← hp]; omega) (RBn_s hr (by rw [hp] at a0; exact a0) (by rw [hp] at a1; exact a1) (by rw [hp] at a2; exact a2) (by rw [hp] at a3; exact a3) (by rw [hp] at a4; exact a4)) (fun I2 A2 f2 g2 e3 hr2 => k I2 A2 (Fr_cons f1 f2 (by decide)) (Fr_cons g1 g2 (by decide)) e3 hr2)
set_option maxRecDepth 100000 in
set_option maxHeartbeats 4000000 in
theorem t_39 (h : DK (A 0) D) {sp p b en : Nat} (h4 : I 4 = nI sp) (h5 : I 5 = nI b) (h8 : I 8 = nI (p + 1)) (hn : bN D (sp + p) ≤ 4) (hq : sp + p < 2 ^ 20) {Q : mO × mHp → Prop} (kk : ∀ I' A', Fr [8, 20, 21, 22] I I' → Fr [10, 11, 12, 13, 14] A A' → I' 8 = nI en → RB I' A' D b (sp + p) → Q (.inl (some (.int (nI 1))), hS n u I' A' J B mk sn L xs X)) : mq 39 71 [some (.ref 4), some (.int (nI en)), none, none, none, none, none] [] (hS n u I A J B mk sn L xs X) Q := by
  have b2 := bp2_le D (sp + p)
  have b3 := bp3_le D (sp + p)
  have b5 := bp5_le D (sp + p)
  obtain ⟨p2, hp2⟩ : ∃ p2, sp + p2 = bp2 D (sp + p) := ⟨bp2 D (sp + p) - sp, by omega⟩
  obtain ⟨p3, hp3⟩ : ∃ p3, sp + p3 = bp3 D (sp + p) := ⟨bp3 D (sp + p) - sp, by omega⟩
  obtain ⟨p5, hp5⟩ : ∃ p5, sp + p5 = bp5 D (sp + p) := ⟨bp5 D (sp + p) - sp, by omega⟩
  refine x_al1 (pc := 71) rfl rfl ?_
  refine g_4_3 (pc := 72) (v := nI b) rfl rfl h5 ?_
  refine x_al1 (pc := 75) rfl rfl ?_
  refine x_k (pc := 76) rfl rfl rfl ⟨Nat.le_of_ble_eq_true rfl, Nat.le_of_ble_eq_true rfl, Nat.le_of_ble_eq_true rfl⟩ rfl (k_41 (I := I) (sp := sp) (p := p + 1) (q := sp + p + 1) h h4 h8 (by omega) (by omega) (fun I1 f1 e1 => ?_))
  show mq 39 79 [some (.ref 4), some (.int (nI en)), none, none, none, none, none] [.int (rV D (sp + p + 1)), .int (nI b)] (hS n u I1 A J B mk sn L xs X) _
  refine x_iaddV (pc := 79) (v := nI b + bO D (sp + p)) rfl (rfl) ?_
  refine x_is1 (pc := 80) (ml' := [some (.ref 4), some (.int (nI en)), some (.int (nI b + bO D (sp + p))), none, none, none, none]) rfl rfl ?_
  refine x_al1 (pc := 81) rfl rfl ?_
  refine x_k (pc := 82) rfl rfl rfl ⟨Nat.le_of_ble_eq_true rfl, Nat.le_of_ble_eq_true rfl, Nat.le_of_ble_eq_true rfl⟩ rfl (k_41 (I := I1) (sp := sp) (p := p2) (q := bp2 D (sp + p)) h ((f1 4 (by decide)).trans h4) (e1.trans (congrArg nI (show p + 1 + lV D (sp + p + 1) = p2 from by unfold bp2 at hp2; omega))) (by omega) (by omega) (fun I2 f2 e2 => ?_))
  show mq 39 85 [some (.ref 4), some (.int (nI en)), some (.int (nI b + bO D (sp + p))), none, none, none, none] [.int (rV D (bp2 D (sp + p)))] (hS n u I2 A J B mk sn L xs X) _
  refine x_k (pc := 85) rfl rfl rfl ⟨Nat.le_of_ble_eq_true rfl, Nat.le_of_ble_eq_true rfl, Nat.le_of_ble_eq_true rfl⟩ rfl (mq_k (c_42 _) ?_)
  show mq 39 88 [some (.ref 4), some (.int (nI en)), some (.int (nI b + bO D (sp + p))), none, none, none, none] [.int (uz (rV D (bp2 D (sp + p))))] (hS n u I2 A J B mk sn L xs X) _
  refine x_top (y := bT D (sp + p)) (rfl) ?_
  refine x_is1 (pc := 88) (ml' := [some (.ref 4), some (.int (nI en)), some (.int (nI b + bO D (sp + p))), some (.int (bT D (sp + p))), none, none, none]) rfl rfl ?_
  refine x_al1 (pc := 89) rfl rfl ?_
  refine x_k (pc := 90) rfl rfl rfl ⟨Nat.le_of_ble_eq_true rfl, Nat.le_of_ble_eq_true rfl, Nat.le_of_ble_eq_true rfl⟩ rfl (k_40 (I := I2) (sp := sp) (p := p3) (q := bp3 D (sp + p)) h ((f2 4 (by decide)).trans ((f1 4 (by decide)).trans h4)) (e2.trans (congrArg nI (show p2 + lV D (bp2 D (sp + p)) = p3 from by unfold bp3 at hp3; omega))) (by omega) (by omega) (fun I3 f3 e3 => ?_))
  show mq 39 93 [some (.ref 4), some (.int (nI en)), some (.int (nI b + bO D (sp + p))), some (.int (bT D (sp + p))), none, none, none] [.int (nI (D (bp3 D (sp + p))))] (hS n u I3 A J B mk sn L xs X) _
  refine x_is2 (pc := 93) (ml' := [some (.ref 4), some (.int (nI en)), some (.int (nI b + bO D (sp + p))), some (.int (bT D (sp + p))), some (.int (nI (D (bp3 D (sp + p))))), none, none]) rfl rfl ?_
  refine x_al1 (pc := 95) rfl rfl ?_
  refine g_4_1 (pc := 96) rfl rfl ?_
  refine x_il2 (pc := 99) rfl rfl ?_
  refine x_al1 (pc := 101) rfl rfl ?_
  refine x_k (pc := 102) rfl rfl rfl ⟨Nat.le_of_ble_eq_true rfl, Nat.le_of_ble_eq_true rfl, Nat.le_of_ble_eq_true rfl⟩ rfl (k_41 (I := I3) (sp := sp) (p := p3 + 1) (q := bp3 D (sp + p) + 1) h ((f3 4 (by decide)).trans ((f2 4 (by decide)).trans ((f1 4 (by decide)).trans h4))) e3 (by omega) (by omega) (fun I4 f4 e4 => ?_))
  show mq 39 105 [some (.ref 4), some (.int (nI en)), some (.int (nI b + bO D (sp + p))), some (.int (bT D (sp + p))), some (.int (nI (D (bp3 D (sp + p))))), none, none] [.int (rV D (bp3 D (sp + p) + 1)), .int (nI (D (bp3 D (sp + p)))), .ref 5] (hS n u I4 A J B mk sn L xs X) _
  refine x_k (pc := 105) rfl rfl rfl ⟨Nat.le_of_ble_eq_true rfl, Nat.le_of_ble_eq_true rfl, Nat.le_of_ble_eq_true rfl⟩ rfl (mq_k (c_43_0 _ _) ?_)
  show mq 39 108 [some (.ref 4), some (.int (nI en)), some (.int (nI b + bO D (sp + p))), some (.int (bT D (sp + p))), some (.int (nI (D (bp3 D (sp + p))))), none, none] [] (hS n u (va_up (va_up I4 20 (nI (D (bp3 D (sp + p))))) 21 (rV D (bp3 D (sp + p) + 1))) A J B mk sn L xs X) _
  refine x_al1 (pc := 108) rfl rfl ?_
  refine g_4_1 (pc := 109) rfl rfl ?_
  refine g_5_0 (pc := 112) rfl rfl ?_
  refine x_const (pc := 115) (pc' := 116) (.int (nI 0)) rfl rfl rfl rfl ?_
  refine p_6_5 (pc := 116) rfl rfl ?_
  refine x_al1 (pc := 119) rfl rfl ?_
  refine x_k (pc := 120) rfl rfl rfl ⟨Nat.le_of_ble_eq_true rfl, Nat.le_of_ble_eq_true rfl, Nat.le_of_ble_eq_true rfl⟩ rfl (k_40 (I := va_up (va_up (va_up I4 20 (nI (D (bp3 D (sp + p))))) 21 (rV D (bp3 D (sp + p) + 1))) 22 (nI 0)) (sp := sp) (p := p5) (q := bp5 D (sp + p)) h ((f4 4 (by decide)).trans ((f3 4 (by decide)).trans ((f2 4 (by decide)).trans ((f1 4 (by decide)).trans h4)))) (e4.trans (congrArg nI (show p3 + 1 + lV D (bp3 D (sp + p) + 1) = p5 from by unfold bp5 at hp5; omega))) (by omega) (by omega) (fun I5 f5 e5 => ?_))
  show mq 39 123 [some (.ref 4), some (.int (nI en)), some (.int (nI b + bO D (sp + p))), some (.int (bT D (sp + p))), some (.int (nI (D (bp3 D (sp + p))))), none, none] [.int (nI (D (bp5 D (sp + p))))] (hS n u I5 A J B mk sn L xs X) _
  refine x_const (pc := 123) (pc' := 124) (.int (nI 4)) rfl rfl rfl rfl ?_
  refine x_k (pc := 124) rfl rfl rfl ⟨Nat.le_of_ble_eq_true rfl, Nat.le_of_ble_eq_true rfl, Nat.le_of_ble_eq_true rfl⟩ rfl (mq_k (c_38 _ _) ?_)
  show mq 39 127 [some (.ref 4), some (.int (nI en)), some (.int (nI b + bO D (sp + p))), some (.int (bT D (sp + p))), some (.int (nI (D (bp3 D (sp + p))))), none, none] [.int (if nI 4 < nI (bN D (sp + p)) then nI 4 else nI (bN D (sp + p)))] (hS n u I5 A J B mk sn L xs X) _
  refine x_top (y := nI (bN D (sp + p))) (if_neg (nI_nlt (a := 4) hn (by decide))) ?_
  refine x_is2 (pc := 127) (ml' := [some (.ref 4), some (.int (nI en)), some (.int (nI b + bO D (sp + p))), some (.int (bT D (sp + p))), some (.int (nI (D (bp3 D (sp + p))))), some (.int (nI (bN D (sp + p)))), none]) rfl rfl ?_
  refine x_const (pc := 129) (pc' := 130) (.int (nI 0)) rfl rfl rfl rfl ?_
  refine x_is2 (pc := 130) (ml' := [some (.ref 4), some (.int (nI en)), some (.int (nI b + bO D (sp + p))), some (.int (bT D (sp + p))), some (.int (nI (D (bp3 D (sp + p))))), some (.int (nI (bN D (sp + p)))), some (.int (nI 0))]) rfl rfl ?_
  refine l_39 (m := bN D (sp + p)) (sp := sp) (b := b) (q := sp + p) _ hn hq (bN D (sp + p)) 0 (p5 + 1) h (Nat.zero_add _) ((f5 4 (by decide)).trans ((f4 4 (by decide)).trans ((f3 4 (by decide)).trans ((f2 4 (by decide)).trans ((f1 4 (by decide)).trans h4))))) e5 (f5 22 (by decide)) (by show sp + (p5 + 1) = bp5 D (sp + p) + 1; omega) (fun k hk => absurd hk (Nat.not_lt_zero k)) (fun I9 A9 f9 g9 e9 hr => ?_)
  refine x_al1 (pc := 151) rfl rfl ?_
  refine x_il1 (pc := 152) rfl rfl ?_
  refine p_4_6 (pc := 153) rfl rfl ?_
  refine x_const (pc := 156) (pc' := 157) (.int (nI 1)) rfl rfl rfl rfl ?_
  refine x_ret (pc := 157) rfl rfl ?_
  exact kk _ _ (Fr_u (Fr_cons (Fr_cons (Fr_u (Fr_u (Fr_u (Fr_cons (Fr_cons (Fr_cons (Fr_cons (Fr_refl _ _) f1 (by decide)) f2 (by decide)) f3 (by decide)) f4 (by decide)) (by decide)) (by decide)) (by decide)) f5 (by decide)) f9 (by decide)) (by decide)) (Fr_cons (Fr_refl _ _) g9 (by decide)) rfl ⟨(f9 20 (by decide)).trans (f5 20 (by decide)), (f9 21 (by decide)).trans (f5 21 (by decide)), e9, hr⟩
set_option maxRecDepth 100000 in
set_option maxHeartbeats 4000000 in
theorem k_39 (h : DK (A 0) D) {sp p b e m : Nat} (h4 : I 4 = nI sp) (h5 : I 5 = nI b) (h6 : I 6 = nI m) (h8 : I 8 = nI p) (h9 : I 9 = nI e - nI 40) (hp : p < m) (hm : m ≤ 128) (he : e < 2 ^ 20) (hn : bN D (sp + p) ≤ 4) (hq : sp < 4096) {Q : mO × mHp → Prop} (kk : ∀ I' A', Fr [7, 8, 9, 10, 20, 21, 22] I I' → Fr [10, 11, 12, 13, 14] A A' → I' 7 = nI p → I' 8 = nI (p + 1 + D (sp + p)) → I' 9 = nI (if e ≤ p then p + 40 else e) - nI 40 → I' 10 = nI (if e ≤ p then 1 else 0) → RB I' A' D b (sp + p) → Q (.inl (some (.int (nI 1))), hS n u I' A' J B mk sn L xs X)) : mq 39 0 [some (.ref 4), none, none, none, none, none, none] [] (hS n u I A J B mk sn L xs X) Q := by
  refine x_al1 (pc := 0) rfl rfl ?_
  refine g_4_6 (pc := 1) (v := nI p) rfl rfl h8 ?_
  refine x_al1 (pc := 4) rfl rfl ?_
  refine g_4_4 (pc := 5) (v := nI m) rfl rfl h6 ?_
  refine x_cmpN_lt (pc := 8) (t := 13) rfl rfl (by omega) (by omega) (fun c8 => ?_) (fun c8 => ?_)
  · refine x_al1 (pc := 13) rfl rfl ?_
    refine x_al1 (pc := 14) rfl rfl ?_
    refine g_4_6 (pc := 15) (v := nI p) rfl rfl h8 ?_
    refine p_4_5 (pc := 18) rfl rfl ?_
    refine x_al1 (pc := 21) rfl rfl ?_
    refine g_4_5 (pc := 22) (v := nI p) rfl rfl rfl ?_
    refine x_const (pc := 25) (pc' := 26) (.int (nI 1)) rfl rfl rfl rfl ?_
    refine x_iaddN (pc := 26) (c := p + 1) rfl rfl ?_
    refine x_al1 (pc := 27) rfl rfl ?_
    refine x_k (pc := 28) rfl rfl rfl ⟨Nat.le_of_ble_eq_true rfl, Nat.le_of_ble_eq_true rfl, Nat.le_of_ble_eq_true rfl⟩ rfl (k_40 (I := va_up I 7 (nI p)) (sp := sp) (p := p) (q := sp + p) h h4 h8 (by omega) (by omega) (fun I1 f1 e1 => ?_))
    show mq 39 31 [some (.ref 4), none, none, none, none, none, none] [.int (nI (D (sp + p))), .int (nI (p + 1))] (hS n u I1 A J B mk sn L xs X) _
    refine x_iaddN (pc := 31) (c := (p + 1) + (D (sp + p))) rfl rfl ?_
    refine x_is1 (pc := 32) (ml' := [some (.ref 4), some (.int (nI ((p + 1) + (D (sp + p))))), none, none, none, none, none]) rfl rfl ?_
    refine x_al1 (pc := 33) rfl rfl ?_
    refine x_al1 (pc := 34) rfl rfl ?_
    refine g_4_5 (pc := 35) (v := nI p) rfl rfl (f1 7 (by decide)) ?_
    refine x_al1 (pc := 38) rfl rfl ?_
    refine g_4_7 (pc := 39) (v := nI e - nI 40) rfl rfl ((f1 9 (by decide)).trans h9) ?_
    refine x_isubV (pc := 42) (v := nI p - (nI e - nI 40)) rfl (rfl) ?_
    refine x_const (pc := 43) (pc' := 45) (.int (nI 40)) rfl rfl rfl rfl ?_
    refine x_cmp_lt (pc := 45) (t := 52) rfl rfl rfl (fun c45 => ?_) (fun c45 => ?_)
    · have c45 : ¬ e ≤ p := fun q => absurd ((nI_gap (by omega) (by omega)).mpr q) (Int32.not_le.mpr c45)
      refine x_const (pc := 52) (pc' := 53) (.int (nI 0)) rfl rfl rfl rfl ?_
      refine p_4_8 (pc := 53) rfl rfl (by decide) ?_
      refine x_al1 (pc := 56) rfl rfl ?_
      refine g_4_8 (pc := 57) (v := nI 0) rfl rfl rfl ?_
      refine x_ifN_eq (pc := 60) (t := 71) rfl rfl (by omega) (fun c60 => ?_) (fun c60 => ?_)
      · refine t_39 (I := va_up I1 10 (nI 0)) (sp := sp) (p := p) (b := b) h ((f1 4 (by decide)).trans h4) ((f1 5 (by decide)).trans h5) e1 hn (by omega) (fun I8 A8 f8 g8 e8 hr => ?_)
        exact kk _ _ (Fr_cons (Fr_u (Fr_cons (Fr_u (Fr_refl _ _) (by decide)) f1 (by decide)) (by decide)) f8 (by decide)) (Fr_cons (Fr_refl _ _) g8 (by decide)) ((f8 7 (by decide)).trans (f1 7 (by decide))) e8 (((f8 9 (by decide)).trans ((f1 9 (by decide)).trans h9)).trans (by rw [if_neg c45])) (((f8 10 (by decide)).trans rfl).trans (by rw [if_neg c45]; rfl)) hr
      · exact absurd rfl c60
    · have c45 : e ≤ p := (nI_gap (by omega) (by omega)).mp (Int32.not_lt.mp c45)
      refine x_const (pc := 48) (pc' := 49) (.int (nI 1)) rfl rfl rfl rfl ?_
      refine x_step (pc := 49) (pc' := 53) rfl rfl rfl rfl ?_
      refine p_4_8 (pc := 53) rfl rfl (by decide) ?_
      refine x_al1 (pc := 56) rfl rfl ?_
      refine g_4_8 (pc := 57) (v := nI 1) rfl rfl rfl ?_
      refine x_ifN_eq (pc := 60) (t := 71) rfl rfl (by omega) (fun c60 => ?_) (fun c60 => ?_)
      · exact absurd c60 (by decide)
      · refine x_al1 (pc := 63) rfl rfl ?_
        refine x_al1 (pc := 64) rfl rfl ?_
        refine g_4_5 (pc := 65) (v := nI p) rfl rfl (f1 7 (by decide)) ?_
        refine p_4_7 (pc := 68) rfl rfl ?_
        refine t_39 (I := va_up (va_up I1 10 (nI 1)) 9 (nI p)) (sp := sp) (p := p) (b := b) h ((f1 4 (by decide)).trans h4) ((f1 5 (by decide)).trans h5) e1 hn (by omega) (fun I8 A8 f8 g8 e8 hr => ?_)
        exact kk _ _ (Fr_cons (Fr_u (Fr_u (Fr_cons (Fr_u (Fr_refl _ _) (by decide)) f1 (by decide)) (by decide)) (by decide)) f8 (by decide)) (Fr_cons (Fr_refl _ _) g8 (by decide)) ((f8 7 (by decide)).trans (f1 7 (by decide))) e8 (((f8 9 (by decide)).trans rfl).trans (by rw [if_pos c45]; show nI p = nI (p + 40) - nI 40; rw [pk_sub (by omega)]; exact congrArg nI (by omega))) (((f8 10 (by decide)).trans rfl).trans (by rw [if_pos c45]; rfl)) hr
  · omega
set_option maxRecDepth 100000 in
set_option maxHeartbeats 4000000 in
theorem k_39f {p m : Nat} (h6 : I 6 = nI m) (h8 : I 8 = nI p) (hp : m ≤ p) (hm : p < 2 ^ 20) {Q : mO × mHp → Prop} (kk : Q (.inl (some (.int (nI 0))), hS n u I A J B mk sn L xs X)) : mq 39 0 [some (.ref 4), none, none, none, none, none, none] [] (hS n u I A J B mk sn L xs X) Q := by
  refine x_al1 (pc := 0) rfl rfl ?_
  refine g_4_6 (pc := 1) (v := nI p) rfl rfl h8 ?_
  refine x_al1 (pc := 4) rfl rfl ?_
  refine g_4_4 (pc := 5) (v := nI m) rfl rfl h6 ?_
  refine x_cmpN_lt (pc := 8) (t := 13) rfl rfl (by omega) (by omega) (fun c8 => ?_) (fun c8 => ?_)
  · omega
  · refine x_const (pc := 11) (pc' := 12) (.int (nI 0)) rfl rfl rfl rfl ?_
    refine x_ret (pc := 12) rfl rfl ?_
    exact kk
end S27
