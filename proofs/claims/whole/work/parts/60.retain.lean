/-! retain: the class. -/
theorem lg_lt {x y : Int64} : lg_cmp x y < 0 ↔ x < y := by
  unfold lg_cmp
  by_cases h1 : x > y
  · rw [if_pos h1]
    exact ⟨fun q => absurd q (by decide), fun q => absurd q (Int64.not_lt.mpr (Int64.le_of_lt h1))⟩
  · rw [if_neg h1]
    by_cases h2 : x = y
    · rw [if_pos h2, h2]
      exact ⟨fun q => absurd q (by decide), fun q => absurd q (Int64.lt_irrefl)⟩
    · rw [if_neg h2]
      refine ⟨fun _ => ?_, fun _ => by decide⟩
      have h3 : ¬ y.toInt < x.toInt := fun q => h1 (Int64.lt_iff_toInt_lt.mpr q)
      have h4 : ¬ x.toInt = y.toInt := fun q => h2 (Int64.toInt_inj.mp q)
      exact Int64.lt_iff_toInt_lt.mpr (by omega)
theorem lim_min (t : Int32) (c : Int64) (hc : 0 ≤ c.toInt) (hc2 : c.toInt < 2000) : (-9223372036854775808 : Int64) < t.toInt64 - c := by
  apply Int64.lt_iff_toInt_lt.mpr
  have h1 : t.toInt64.toInt = t.toInt := Int32.toInt_toInt64 t
  have h2 := Int32.le_toInt t
  have h3 := Int32.toInt_lt t
  have h4 : (t.toInt64 - c).toInt = t.toInt - c.toInt := by
    rw [Int64.toInt_sub, h1]
    apply Int.bmod_eq_of_le
    · omega
    · omega
  have h5 : (-9223372036854775808 : Int64).toInt = -9223372036854775808 := by decide
  rw [h4, h5]
  omega
/-- all times of a batch, of a slot lie before lim -/
def tB (D : Nat → Nat) (q : Nat) (lim : Int64) : Nat → Nat → Bool
  | 0, _ => true
  | z + 1, k => decide ((tR D q k).toInt64 < lim) && tB D q lim z (k + 1)
def tS (D : Nat → Nat) (s : Nat) (lim : Int64) : Nat → Nat → Bool
  | 0, _ => true
  | z + 1, j => tB D (sb D s j) lim (bN D (sb D s j)) 0 && tS D s lim z (j + 1)
/-- whether the first segment goes -/
def go (D : Nat → Nat) (f bc : Nat → Nat) (n : Nat) (lim : Int64) : Bool := decide (1 < n) && (tS D (f 0) lim (bc (f 0)) 0 || decide (240 ≤ mkS D f (n - 1) 1))
def sh (f : Nat → Nat) : Nat → Nat := fun k => f (k + 1)
def rt (lim : Int64) (bc : Nat → Nat) : Nat → DS → (Nat → Nat) → Nat → Nat → DS × (Nat → Nat) × Nat × Nat
  | 0, S, f, n, g => (S, f, n, g)
  | z + 1, S, f, n, g => if go (dD S) f bc n lim = true ∧ dO S = false then rt lim bc z (wr1 S (owW (f 0) 0)) (sh f) (n - 1) (g + 1) else (S, f, n, g)
theorem rt_off {lim : Int64} {bc f : Nat → Nat} {S : DS} {n g : Nat} (h : dO S = true) : ∀ z, rt lim bc z S f n g = (S, f, n, g)
  | 0 => rfl
  | z + 1 => if_neg (fun q => by rw [h] at q; exact Bool.noConfusion q.2)
/-- the slots without the j-th -/
def rmF (f : Nat → Nat) (j : Nat) : Nat → Nat := fun k => if k < j then f k else f (k + 1)
section S60
variable {n u : Nat} {I : Nat → Int32} {A : Nat → Nat → Int32} {J : Int64} {B : Nat → Int64} {mk sn L : Nat} {xs : Nat → Int32} {X : Nat → mC} {D : Nat → Nat} 
set_option maxRecDepth 100000 in
set_option maxHeartbeats 4000000 in
theorem k_107 {x y : Int64} {Q : mO × mHp → Prop} (kk : ∀ G, (∀ lim, G < lim ↔ x < lim ∧ y < lim) → Q (.inl (some (.long G)), hS n u I A J B mk sn L xs X)) : mq 107 0 [some (.long x), none, some (.long y), none] [] (hS n u I A J B mk sn L xs X) Q := by
  refine x_step (pc := 0) (pc' := 1) rfl rfl rfl rfl ?_
  refine x_step (pc := 1) (pc' := 2) rfl rfl rfl rfl ?_
  refine x_step (pc := 2) (pc' := 3) (st' := [.int (lg_cmp x y)]) rfl rfl rfl rfl ?_
  refine x_if_lt (pc := 3) (t := 10) rfl rfl rfl (fun c3 => ?_) (fun c3 => ?_)
  · refine x_step (pc := 10) (pc' := 11) rfl rfl rfl rfl ?_
    refine x_ret (pc := 11) rfl rfl ?_
    first
    | exact kk _ (fun lim => ⟨fun q => ⟨Int64.lt_trans (lg_lt.mp c3) q, q⟩, fun q => q.2⟩)
    | exact kk _ (fun lim => ⟨fun q => ⟨q, Int64.lt_of_le_of_lt (Int64.not_lt.mp (fun w => c3 (lg_lt.mpr w))) q⟩, fun q => q.1⟩)
  · refine x_step (pc := 6) (pc' := 7) rfl rfl rfl rfl ?_
    refine x_step (pc := 7) (pc' := 11) rfl rfl rfl rfl ?_
    refine x_ret (pc := 11) rfl rfl ?_
    first
    | exact kk _ (fun lim => ⟨fun q => ⟨Int64.lt_trans (lg_lt.mp c3) q, q⟩, fun q => q.2⟩)
    | exact kk _ (fun lim => ⟨fun q => ⟨q, Int64.lt_of_le_of_lt (Int64.not_lt.mp (fun w => c3 (lg_lt.mpr w))) q⟩, fun q => q.1⟩)
set_option maxRecDepth 100000 in
set_option maxHeartbeats 4000000 in
theorem l_106r {s j b q m : Nat} {lim : Int64} (hm : m ≤ 4) (hj : j < 200) (h22 : I 22 = nI m) (hr : RBn A D b q m) {Q : mO × mHp → Prop} : ∀ (z k : Nat) (g : Int64), (k + z = m) → (∀ G, (G < lim ↔ g < lim ∧ tB D q lim z k = true) → mq 106 80 [some (.ref 1), some (.int (nI s)), some (.long G), none, some (.ref 6), some (.int (nI j)), some (.int (nI m))] [] (hS n u I A J B mk sn L xs X) Q) → mq 106 50 [some (.ref 1), some (.int (nI s)), some (.long g), none, some (.ref 6), some (.int (nI j)), some (.int (nI k))] [] (hS n u I A J B mk sn L xs X) Q := by
  intro z
  induction z with
  | zero =>
    intro k g hz kk
    refine x_il2 (pc := 50) rfl rfl ?_
    refine x_al2 (pc := 52) rfl rfl ?_
    refine g_6_5 (pc := 54) (v := nI m) rfl rfl h22 ?_
    refine x_cmpN_ge (pc := 57) (t := 80) rfl rfl (by omega) (by omega) (fun c57 => ?_) (fun c57 => ?_)
    · rw [show k = m by omega]
      exact kk g ⟨fun q => ⟨q, rfl⟩, fun q => q.1⟩
    · omega
  | succ z ih =>
    intro k g hz kk
    refine x_il2 (pc := 50) rfl rfl ?_
    refine x_al2 (pc := 52) rfl rfl ?_
    refine g_6_5 (pc := 54) (v := nI m) rfl rfl h22 ?_
    refine x_cmpN_ge (pc := 57) (t := 80) rfl rfl (by omega) (by omega) (fun c57 => ?_) (fun c57 => ?_)
    · omega
    · refine x_step (pc := 60) (pc' := 61) rfl rfl rfl rfl ?_
      refine x_al2 (pc := 61) rfl rfl ?_
      refine g_6_1 (pc := 63) rfl rfl ?_
      refine x_il2 (pc := 66) rfl rfl ?_
      refine al_8 (pc := 68) (q := k) (v := tR D q k) rfl rfl (by omega) ((hr k (by omega)).2.1) ?_
      refine x_i2l (pc := 69) rfl rfl ?_
      refine x_k (pc := 70) rfl rfl rfl ⟨Nat.le_of_ble_eq_true rfl, Nat.le_of_ble_eq_true rfl, Nat.le_of_ble_eq_true rfl⟩ rfl (k_107 (I := I) (A := A) (fun G1 hG1 => ?_))
      show mq 106 73 [some (.ref 1), some (.int (nI s)), some (.long g), none, some (.ref 6), some (.int (nI j)), some (.int (nI k))] [.long G1] (hS n u I A J B mk sn L xs X) _
      refine x_step (pc := 73) (pc' := 74) (ml' := [some (.ref 1), some (.int (nI s)), some (.long G1), none, some (.ref 6), some (.int (nI j)), some (.int (nI k))]) (st' := []) rfl rfl rfl rfl ?_
      refine x_iincN (pc := 74) (c := 1) (ml' := [some (.ref 1), some (.int (nI s)), some (.long G1), none, some (.ref 6), some (.int (nI j)), some (.int (nI (k + 1)))]) rfl rfl rfl rfl ?_
      refine x_step (pc := 77) (pc' := 50) rfl rfl rfl rfl ?_
      refine ih (k + 1) G1 (by omega) (fun G hG => kk G (hG.trans ?_))
      rw [hG1 lim]
      show _ ↔ g < lim ∧ (decide ((tR D q k).toInt64 < lim) && tB D q lim z (k + 1)) = true
      rw [Bool.and_eq_true, decide_eq_true_iff]
      exact and_assoc
set_option maxRecDepth 100000 in
set_option maxHeartbeats 4000000 in
theorem l_106 {s c : Nat} {lim : Int64} (hs : s < 16) (hW : WS D s c) {Q : mO × mHp → Prop} : ∀ (z j e : Nat) (w6 : Option Value) (g : Int64) {I : Nat → Int32} {A : Nat → Nat → Int32}, (DK (A 0) D) → (j + z = c) → (RS I D s j e) → (e < 1000) → (∀ I' A' G, Fr [4, 5, 6, 7, 8, 9, 10, 20, 21, 22] I I' → Fr [10, 11, 12, 13, 14] A A' → (G < lim ↔ g < lim ∧ tS D s lim z j = true) → Q (.inl (some (.long G)), hS n u I' A' J B mk sn L xs X)) → mq 106 29 [some (.ref 1), some (.int (nI s)), some (.long g), none, some (.ref 6), some (.int (nI j)), w6] [] (hS n u I A J B mk sn L xs X) Q := by
  intro z
  induction z with
  | zero =>
    intro j e w6 g I A h hz hR he kk
    have q8 := WS_8 hW
    have q9 := WS_128 hW
    refine x_il2 (pc := 29) rfl rfl ?_
    refine x_const (pc := 31) (pc' := 34) (.int (nI 128)) rfl rfl rfl rfl ?_
    refine x_cmpN_ge (pc := 34) (t := 86) rfl rfl (by omega) (by omega) (fun c34 => ?_) (fun c34 => ?_)
    · omega
    · refine x_al1 (pc := 37) rfl rfl ?_
      refine g_1_1 (pc := 38) rfl rfl ?_
      refine x_k (pc := 41) rfl rfl rfl ⟨Nat.le_of_ble_eq_true rfl, Nat.le_of_ble_eq_true rfl, Nat.le_of_ble_eq_true rfl⟩ rfl (rs_end (I := I) (A := A) hW (by omega) hR ?_)
      show mq 106 44 [some (.ref 1), some (.int (nI s)), some (.long g), none, some (.ref 6), some (.int (nI j)), w6] [.int (nI 0)] (hS n u I A J B mk sn L xs X) _
      refine x_ifN_eq (pc := 44) (t := 86) rfl rfl (by decide) (fun _ => ?_) (fun c => absurd c (by decide))
      refine x_step (pc := 86) (pc' := 87) rfl rfl rfl rfl ?_
      refine x_ret (pc := 87) rfl rfl ?_
      exact kk I A g (Fr_refl _ _) (Fr_refl _ _) ⟨fun q => ⟨q, rfl⟩, fun q => q.1⟩
  | succ z ih =>
    intro j e w6 g I A h hz hR he kk
    have hj : j < c := by omega
    have q8 := WS_8 hW
    have q9 := WS_128 hW
    refine x_il2 (pc := 29) rfl rfl ?_
    refine x_const (pc := 31) (pc' := 34) (.int (nI 128)) rfl rfl rfl rfl ?_
    refine x_cmpN_ge (pc := 34) (t := 86) rfl rfl (by omega) (by omega) (fun c34 => ?_) (fun c34 => ?_)
    · omega
    · refine x_al1 (pc := 37) rfl rfl ?_
      refine g_1_1 (pc := 38) rfl rfl ?_
      refine x_k (pc := 41) rfl rfl rfl ⟨Nat.le_of_ble_eq_true rfl, Nat.le_of_ble_eq_true rfl, Nat.le_of_ble_eq_true rfl⟩ rfl (rs_step (I := I) (A := A) h hs hW hj hR he (fun I1 A1 f1 g1 hR1 e7 e10 hb => ?_))
      show mq 106 44 [some (.ref 1), some (.int (nI s)), some (.long g), none, some (.ref 6), some (.int (nI j)), w6] [.int (nI 1)] (hS n u I1 A1 J B mk sn L xs X) _
      refine x_ifN_eq (pc := 44) (t := 86) rfl rfl (by decide) (fun c => absurd c (by decide)) (fun _ => ?_)
      refine x_const (pc := 47) (pc' := 48) (.int (nI 0)) rfl rfl rfl rfl ?_
      refine x_is2 (pc := 48) (ml' := [some (.ref 1), some (.int (nI s)), some (.long g), none, some (.ref 6), some (.int (nI j)), some (.int (nI 0))]) rfl rfl ?_
      refine l_106r (A := A1) (b := bB D s) (q := sb D s j) (m := bN D (sb D s j)) (lim := lim) (WS_b hW hj).2.1 (by omega) hb.2.2.1 hb.2.2.2 (bN D (sb D s j)) 0 g (Nat.zero_add _) (fun G1 hG1 => ?_)
      refine x_iincN (pc := 80) (c := 1) (ml' := [some (.ref 1), some (.int (nI s)), some (.long G1), none, some (.ref 6), some (.int (nI (j + 1))), some (.int (nI (bN D (sb D s j))))]) rfl rfl rfl rfl ?_
      refine x_step (pc := 83) (pc' := 29) rfl rfl rfl rfl ?_
      refine ih (j + 1) (eN e (pb D s j)) _ G1 (I := I1) (A := A1) (by rw [g1 0 (by decide)]; exact h) (by omega) hR1 (eN_lt he (pb_le hW (by omega))) (fun I2 A2 G f2 g2 hG => kk I2 A2 G (Fr_cons (Fr_cons (Fr_refl _ _) f1 (by decide)) f2 (by decide)) (Fr_cons g1 g2 (by decide)) (hG.trans ?_))
      rw [hG1]
      show _ ↔ g < lim ∧ (tB D (sb D s j) lim (bN D (sb D s j)) 0 && tS D s lim z (j + 1)) = true
      rw [Bool.and_eq_true]
      exact and_assoc
set_option maxRecDepth 100000 in
set_option maxHeartbeats 4000000 in
theorem k_106 (h : DK (A 0) D) {s c : Nat} {lim : Int64} (hs : s < 16) (hW : WS D s c) (hlim : (-9223372036854775808 : Int64) < lim) {Q : mO × mHp → Prop} (kk : ∀ I' A' G, Fr [4, 5, 6, 7, 8, 9, 10, 20, 21, 22] I I' → Fr [10, 11, 12, 13, 14] A A' → (G < lim ↔ tS D s lim c 0 = true) → Q (.inl (some (.long G)), hS n u I' A' J B mk sn L xs X)) : mq 106 0 [some (.ref 1), some (.int (nI s)), none, none, none, none, none] [] (hS n u I A J B mk sn L xs X) Q := by
  refine x_const (pc := 0) (pc' := 3) (.long (-9223372036854775808)) rfl rfl rfl rfl ?_
  refine x_step (pc := 3) (pc' := 4) (ml' := [some (.ref 1), some (.int (nI s)), some (.long (-9223372036854775808)), none, none, none, none]) (st' := []) rfl rfl rfl rfl ?_
  refine x_al1 (pc := 4) rfl rfl ?_
  refine g_1_1 (pc := 5) rfl rfl ?_
  refine x_il1 (pc := 8) rfl rfl ?_
  refine x_const (pc := 9) (pc' := 11) (.int (nI 8)) rfl rfl rfl rfl ?_
  refine x_k (pc := 11) rfl rfl rfl ⟨Nat.le_of_ble_eq_true rfl, Nat.le_of_ble_eq_true rfl, Nat.le_of_ble_eq_true rfl⟩ rfl (rs_open (I := I) (A := A) (j := 0) h hs hW (Nat.zero_le _) (pb_0 D s).symm (fun I1 f1 hR => ?_))
  show mq 106 14 [some (.ref 1), some (.int (nI s)), some (.long (-9223372036854775808)), none, none, none, none] [] (hS n u I1 A J B mk sn L xs X) _
  refine x_al1 (pc := 14) rfl rfl ?_
  refine g_1_1 (pc := 15) rfl rfl ?_
  refine g_4_1 (pc := 18) rfl rfl ?_
  refine g_5_0 (pc := 21) rfl rfl ?_
  refine x_as2 (pc := 24) (ml' := [some (.ref 1), some (.int (nI s)), some (.long (-9223372036854775808)), none, some (.ref 6), none, none]) rfl rfl ?_
  refine x_const (pc := 26) (pc' := 27) (.int (nI 0)) rfl rfl rfl rfl ?_
  refine x_is2 (pc := 27) (ml' := [some (.ref 1), some (.int (nI s)), some (.long (-9223372036854775808)), none, some (.ref 6), some (.int (nI 0)), none]) rfl rfl ?_
  exact l_106 hs hW c 0 8 none _ h (Nat.zero_add _) hR (by decide) (fun I2 A2 G f2 g2 hG => kk I2 A2 G (Fr_cons (Fr_cons (Fr_refl _ _) f1 (by decide)) f2 (by decide)) g2 (hG.trans ⟨fun q => q.2, fun q => ⟨hlim, q⟩⟩))
set_option maxRecDepth 100000 in
set_option maxHeartbeats 4000000 in
theorem l_101_0 {cn j : Nat} {f : Nat → Nat} (hcn : cn ≤ 16) (hj : j < cn) (hc : I 40 = nI cn) {Q : mO × mHp → Prop} : ∀ (z k : Nat) {A : Nat → Nat → Int32}, (k + z = cn) → (j + 1 ≤ k) → (∀ m, m < cn → A 30 m = nI (if m + 1 < k then rmF f j m else f m)) → (∀ A', Fr [30] A A' → (∀ m, m < cn - 1 → A' 30 m = nI (rmF f j m)) → mq 101 45 [some (.ref 13), some (.int (nI j)), some (.int (nI cn))] [] (hS n u I A' J B mk sn L xs X) Q) → mq 101 17 [some (.ref 13), some (.int (nI j)), some (.int (nI k))] [] (hS n u I A J B mk sn L xs X) Q := by
  intro z
  induction z with
  | zero =>
    intro k A hz hk hA kk
    refine x_il1 (pc := 17) rfl rfl ?_
    refine x_al1 (pc := 18) rfl rfl ?_
    refine g_13_5 (pc := 19) (v := nI cn) rfl rfl hc ?_
    refine x_cmpN_ge (pc := 22) (t := 45) rfl rfl (by omega) (by omega) (fun c22 => ?_) (fun c22 => ?_)
    · rw [show k = cn by omega]
      exact kk A (Fr_refl _ _) (fun m hm => (hA m (by omega)).trans (congrArg nI (if_pos (by omega))))
    · omega
  | succ z ih =>
    intro k A hz hk hA kk
    refine x_il1 (pc := 17) rfl rfl ?_
    refine x_al1 (pc := 18) rfl rfl ?_
    refine g_13_5 (pc := 19) (v := nI cn) rfl rfl hc ?_
    refine x_cmpN_ge (pc := 22) (t := 45) rfl rfl (by omega) (by omega) (fun c22 => ?_) (fun c22 => ?_)
    · omega
    · refine x_al1 (pc := 25) rfl rfl ?_
      refine g_13_1 (pc := 26) rfl rfl ?_
      refine x_il1 (pc := 29) rfl rfl ?_
      refine x_const (pc := 30) (pc' := 31) (.int (nI 1)) rfl rfl rfl rfl ?_
      refine x_isubN (pc := 31) rfl ((by omega)) ?_
      refine x_al1 (pc := 32) rfl rfl ?_
      refine g_13_1 (pc := 33) rfl rfl ?_
      refine x_il1 (pc := 36) rfl rfl ?_
      refine al_14 (pc := 37) (q := k) (v := nI (f k)) rfl rfl (by omega) ((hA k (by omega)).trans (congrArg nI (if_neg (by omega)))) ?_
      refine as_14 (pc := 38) (q := k - 1) rfl rfl (by omega) ?_
      refine x_iincN (pc := 39) (c := 1) (ml' := [some (.ref 13), some (.int (nI j)), some (.int (nI (k + 1)))]) rfl rfl rfl rfl ?_
      refine x_step (pc := 42) (pc' := 17) rfl rfl rfl rfl ?_
      refine ih (k + 1) (A := va_up A 30 (upd (A 30) (k - 1) (nI (f k)))) (by omega) (by omega) (fun m hm => ?_) (fun A9 g9 h9 => kk A9 (Fr_cons (Fr_u (Fr_refl _ _) (by decide)) g9 (by decide)) h9)
      by_cases h5 : m = k - 1
      · subst h5
        refine pk_us.trans (congrArg nI ?_)
        rw [if_pos (by omega)]
        unfold rmF
        rw [if_neg (by omega), show k - 1 + 1 = k by omega]
      · refine (pk_un h5).trans ((hA m hm).trans (congrArg nI ?_))
        by_cases h6 : m + 1 < k
        · rw [if_pos h6, if_pos (by omega)]
        · rw [if_neg h6, if_neg (by omega)]
set_option maxRecDepth 100000 in
set_option maxHeartbeats 4000000 in
theorem k_101_0 {cn j : Nat} {f : Nat → Nat} (hcn : cn ≤ 16) (hj : j < cn) (hc : I 40 = nI cn) (hsl : ∀ m, m < cn → A 30 m = nI (f m)) {Q : mO × mHp → Prop} (kk : ∀ A', Fr [30] A A' → (∀ m, m < cn - 1 → A' 30 m = nI (rmF f j m)) → Q (.inl none, hS n u (va_up I 40 (nI (cn - 1))) A' J B mk sn L xs X)) : mq 101 0 [some (.ref 13), some (.int (nI j)), none] [] (hS n u I A J B mk sn L xs X) Q := by
  refine x_il1 (pc := 0) rfl rfl ?_
  refine x_ifN_lt (pc := 1) (t := 12) rfl rfl (by omega) ?_
  refine x_il1 (pc := 4) rfl rfl ?_
  refine x_al1 (pc := 5) rfl rfl ?_
  refine g_13_5 (pc := 6) (v := nI cn) rfl rfl hc ?_
  refine x_cmpN_lt (pc := 9) (t := 13) rfl rfl (by omega) (by omega) (fun c9 => ?_) (fun c9 => ?_)
  · refine x_il1 (pc := 13) rfl rfl ?_
    refine x_const (pc := 14) (pc' := 15) (.int (nI 1)) rfl rfl rfl rfl ?_
    refine x_iaddN (pc := 15) (c := j + 1) rfl rfl ?_
    refine x_is1 (pc := 16) (ml' := [some (.ref 13), some (.int (nI j)), some (.int (nI (j + 1)))]) rfl rfl ?_
    refine l_101_0 (f := f) hcn hj hc (cn - j - 1) (j + 1) (by omega) (Nat.le_refl _) (fun m hm => ?_) (fun A9 g9 h9 => ?_)
    · rw [hsl m hm]
      refine congrArg nI ?_
      by_cases h6 : m + 1 < j + 1
      · rw [if_pos h6]
        unfold rmF
        rw [if_pos (by omega)]
      · rw [if_neg h6]
    refine x_al1 (pc := 45) rfl rfl ?_
    refine x_step (pc := 46) (pc' := 47) (st' := [.ref 13, .ref 13]) rfl rfl rfl rfl ?_
    refine g_13_5 (pc := 47) (v := nI cn) rfl rfl hc ?_
    refine x_const (pc := 50) (pc' := 51) (.int (nI 1)) rfl rfl rfl rfl ?_
    refine x_isubN (pc := 51) rfl ((by omega)) ?_
    refine p_13_5 (pc := 52) rfl rfl ?_
    refine x_ret (pc := 55) rfl rfl ?_
    exact kk A9 g9 h9
  · omega
set_option maxRecDepth 100000 in
set_option maxHeartbeats 4000000 in
theorem l_101_1 {cn j : Nat} {f : Nat → Nat} (hcn : cn ≤ 16) (hj : j < cn) (hc : I 43 = nI cn) {Q : mO × mHp → Prop} : ∀ (z k : Nat) {A : Nat → Nat → Int32}, (k + z = cn) → (j + 1 ≤ k) → (∀ m, m < cn → A 34 m = nI (if m + 1 < k then rmF f j m else f m)) → (∀ A', Fr [34] A A' → (∀ m, m < cn - 1 → A' 34 m = nI (rmF f j m)) → mq 101 45 [some (.ref 18), some (.int (nI j)), some (.int (nI cn))] [] (hS n u I A' J B mk sn L xs X) Q) → mq 101 17 [some (.ref 18), some (.int (nI j)), some (.int (nI k))] [] (hS n u I A J B mk sn L xs X) Q := by
  intro z
  induction z with
  | zero =>
    intro k A hz hk hA kk
    refine x_il1 (pc := 17) rfl rfl ?_
    refine x_al1 (pc := 18) rfl rfl ?_
    refine g_18_5 (pc := 19) (v := nI cn) rfl rfl hc ?_
    refine x_cmpN_ge (pc := 22) (t := 45) rfl rfl (by omega) (by omega) (fun c22 => ?_) (fun c22 => ?_)
    · rw [show k = cn by omega]
      exact kk A (Fr_refl _ _) (fun m hm => (hA m (by omega)).trans (congrArg nI (if_pos (by omega))))
    · omega
  | succ z ih =>
    intro k A hz hk hA kk
    refine x_il1 (pc := 17) rfl rfl ?_
    refine x_al1 (pc := 18) rfl rfl ?_
    refine g_18_5 (pc := 19) (v := nI cn) rfl rfl hc ?_
    refine x_cmpN_ge (pc := 22) (t := 45) rfl rfl (by omega) (by omega) (fun c22 => ?_) (fun c22 => ?_)
    · omega
    · refine x_al1 (pc := 25) rfl rfl ?_
      refine g_18_1 (pc := 26) rfl rfl ?_
      refine x_il1 (pc := 29) rfl rfl ?_
      refine x_const (pc := 30) (pc' := 31) (.int (nI 1)) rfl rfl rfl rfl ?_
      refine x_isubN (pc := 31) rfl ((by omega)) ?_
      refine x_al1 (pc := 32) rfl rfl ?_
      refine g_18_1 (pc := 33) rfl rfl ?_
      refine x_il1 (pc := 36) rfl rfl ?_
      refine al_19 (pc := 37) (q := k) (v := nI (f k)) rfl rfl (by omega) ((hA k (by omega)).trans (congrArg nI (if_neg (by omega)))) ?_
      refine as_19 (pc := 38) (q := k - 1) rfl rfl (by omega) ?_
      refine x_iincN (pc := 39) (c := 1) (ml' := [some (.ref 18), some (.int (nI j)), some (.int (nI (k + 1)))]) rfl rfl rfl rfl ?_
      refine x_step (pc := 42) (pc' := 17) rfl rfl rfl rfl ?_
      refine ih (k + 1) (A := va_up A 34 (upd (A 34) (k - 1) (nI (f k)))) (by omega) (by omega) (fun m hm => ?_) (fun A9 g9 h9 => kk A9 (Fr_cons (Fr_u (Fr_refl _ _) (by decide)) g9 (by decide)) h9)
      by_cases h5 : m = k - 1
      · subst h5
        refine pk_us.trans (congrArg nI ?_)
        rw [if_pos (by omega)]
        unfold rmF
        rw [if_neg (by omega), show k - 1 + 1 = k by omega]
      · refine (pk_un h5).trans ((hA m hm).trans (congrArg nI ?_))
        by_cases h6 : m + 1 < k
        · rw [if_pos h6, if_pos (by omega)]
        · rw [if_neg h6, if_neg (by omega)]
set_option maxRecDepth 100000 in
set_option maxHeartbeats 4000000 in
theorem k_101_1 {cn j : Nat} {f : Nat → Nat} (hcn : cn ≤ 16) (hj : j < cn) (hc : I 43 = nI cn) (hsl : ∀ m, m < cn → A 34 m = nI (f m)) {Q : mO × mHp → Prop} (kk : ∀ A', Fr [34] A A' → (∀ m, m < cn - 1 → A' 34 m = nI (rmF f j m)) → Q (.inl none, hS n u (va_up I 43 (nI (cn - 1))) A' J B mk sn L xs X)) : mq 101 0 [some (.ref 18), some (.int (nI j)), none] [] (hS n u I A J B mk sn L xs X) Q := by
  refine x_il1 (pc := 0) rfl rfl ?_
  refine x_ifN_lt (pc := 1) (t := 12) rfl rfl (by omega) ?_
  refine x_il1 (pc := 4) rfl rfl ?_
  refine x_al1 (pc := 5) rfl rfl ?_
  refine g_18_5 (pc := 6) (v := nI cn) rfl rfl hc ?_
  refine x_cmpN_lt (pc := 9) (t := 13) rfl rfl (by omega) (by omega) (fun c9 => ?_) (fun c9 => ?_)
  · refine x_il1 (pc := 13) rfl rfl ?_
    refine x_const (pc := 14) (pc' := 15) (.int (nI 1)) rfl rfl rfl rfl ?_
    refine x_iaddN (pc := 15) (c := j + 1) rfl rfl ?_
    refine x_is1 (pc := 16) (ml' := [some (.ref 18), some (.int (nI j)), some (.int (nI (j + 1)))]) rfl rfl ?_
    refine l_101_1 (f := f) hcn hj hc (cn - j - 1) (j + 1) (by omega) (Nat.le_refl _) (fun m hm => ?_) (fun A9 g9 h9 => ?_)
    · rw [hsl m hm]
      refine congrArg nI ?_
      by_cases h6 : m + 1 < j + 1
      · rw [if_pos h6]
        unfold rmF
        rw [if_pos (by omega)]
      · rw [if_neg h6]
    refine x_al1 (pc := 45) rfl rfl ?_
    refine x_step (pc := 46) (pc' := 47) (st' := [.ref 18, .ref 18]) rfl rfl rfl rfl ?_
    refine g_18_5 (pc := 47) (v := nI cn) rfl rfl hc ?_
    refine x_const (pc := 50) (pc' := 51) (.int (nI 1)) rfl rfl rfl rfl ?_
    refine x_isubN (pc := 51) rfl ((by omega)) ?_
    refine p_18_5 (pc := 52) rfl rfl ?_
    refine x_ret (pc := 55) rfl rfl ?_
    exact kk A9 g9 h9
  · omega
set_option maxRecDepth 100000 in
set_option maxHeartbeats 4000000 in
theorem l_101_2 {cn j : Nat} {f : Nat → Nat} (hcn : cn ≤ 16) (hj : j < cn) (hc : I 46 = nI cn) {Q : mO × mHp → Prop} : ∀ (z k : Nat) {A : Nat → Nat → Int32}, (k + z = cn) → (j + 1 ≤ k) → (∀ m, m < cn → A 38 m = nI (if m + 1 < k then rmF f j m else f m)) → (∀ A', Fr [38] A A' → (∀ m, m < cn - 1 → A' 38 m = nI (rmF f j m)) → mq 101 45 [some (.ref 23), some (.int (nI j)), some (.int (nI cn))] [] (hS n u I A' J B mk sn L xs X) Q) → mq 101 17 [some (.ref 23), some (.int (nI j)), some (.int (nI k))] [] (hS n u I A J B mk sn L xs X) Q := by
  intro z
  induction z with
  | zero =>
    intro k A hz hk hA kk
    refine x_il1 (pc := 17) rfl rfl ?_
    refine x_al1 (pc := 18) rfl rfl ?_
    refine g_23_5 (pc := 19) (v := nI cn) rfl rfl hc ?_
    refine x_cmpN_ge (pc := 22) (t := 45) rfl rfl (by omega) (by omega) (fun c22 => ?_) (fun c22 => ?_)
    · rw [show k = cn by omega]
      exact kk A (Fr_refl _ _) (fun m hm => (hA m (by omega)).trans (congrArg nI (if_pos (by omega))))
    · omega
  | succ z ih =>
    intro k A hz hk hA kk
    refine x_il1 (pc := 17) rfl rfl ?_
    refine x_al1 (pc := 18) rfl rfl ?_
    refine g_23_5 (pc := 19) (v := nI cn) rfl rfl hc ?_
    refine x_cmpN_ge (pc := 22) (t := 45) rfl rfl (by omega) (by omega) (fun c22 => ?_) (fun c22 => ?_)
    · omega
    · refine x_al1 (pc := 25) rfl rfl ?_
      refine g_23_1 (pc := 26) rfl rfl ?_
      refine x_il1 (pc := 29) rfl rfl ?_
      refine x_const (pc := 30) (pc' := 31) (.int (nI 1)) rfl rfl rfl rfl ?_
      refine x_isubN (pc := 31) rfl ((by omega)) ?_
      refine x_al1 (pc := 32) rfl rfl ?_
      refine g_23_1 (pc := 33) rfl rfl ?_
      refine x_il1 (pc := 36) rfl rfl ?_
      refine al_24 (pc := 37) (q := k) (v := nI (f k)) rfl rfl (by omega) ((hA k (by omega)).trans (congrArg nI (if_neg (by omega)))) ?_
      refine as_24 (pc := 38) (q := k - 1) rfl rfl (by omega) ?_
      refine x_iincN (pc := 39) (c := 1) (ml' := [some (.ref 23), some (.int (nI j)), some (.int (nI (k + 1)))]) rfl rfl rfl rfl ?_
      refine x_step (pc := 42) (pc' := 17) rfl rfl rfl rfl ?_
      refine ih (k + 1) (A := va_up A 38 (upd (A 38) (k - 1) (nI (f k)))) (by omega) (by omega) (fun m hm => ?_) (fun A9 g9 h9 => kk A9 (Fr_cons (Fr_u (Fr_refl _ _) (by decide)) g9 (by decide)) h9)
      by_cases h5 : m = k - 1
      · subst h5
        refine pk_us.trans (congrArg nI ?_)
        rw [if_pos (by omega)]
        unfold rmF
        rw [if_neg (by omega), show k - 1 + 1 = k by omega]
      · refine (pk_un h5).trans ((hA m hm).trans (congrArg nI ?_))
        by_cases h6 : m + 1 < k
        · rw [if_pos h6, if_pos (by omega)]
        · rw [if_neg h6, if_neg (by omega)]
set_option maxRecDepth 100000 in
set_option maxHeartbeats 4000000 in
theorem k_101_2 {cn j : Nat} {f : Nat → Nat} (hcn : cn ≤ 16) (hj : j < cn) (hc : I 46 = nI cn) (hsl : ∀ m, m < cn → A 38 m = nI (f m)) {Q : mO × mHp → Prop} (kk : ∀ A', Fr [38] A A' → (∀ m, m < cn - 1 → A' 38 m = nI (rmF f j m)) → Q (.inl none, hS n u (va_up I 46 (nI (cn - 1))) A' J B mk sn L xs X)) : mq 101 0 [some (.ref 23), some (.int (nI j)), none] [] (hS n u I A J B mk sn L xs X) Q := by
  refine x_il1 (pc := 0) rfl rfl ?_
  refine x_ifN_lt (pc := 1) (t := 12) rfl rfl (by omega) ?_
  refine x_il1 (pc := 4) rfl rfl ?_
  refine x_al1 (pc := 5) rfl rfl ?_
  refine g_23_5 (pc := 6) (v := nI cn) rfl rfl hc ?_
  refine x_cmpN_lt (pc := 9) (t := 13) rfl rfl (by omega) (by omega) (fun c9 => ?_) (fun c9 => ?_)
  · refine x_il1 (pc := 13) rfl rfl ?_
    refine x_const (pc := 14) (pc' := 15) (.int (nI 1)) rfl rfl rfl rfl ?_
    refine x_iaddN (pc := 15) (c := j + 1) rfl rfl ?_
    refine x_is1 (pc := 16) (ml' := [some (.ref 23), some (.int (nI j)), some (.int (nI (j + 1)))]) rfl rfl ?_
    refine l_101_2 (f := f) hcn hj hc (cn - j - 1) (j + 1) (by omega) (Nat.le_refl _) (fun m hm => ?_) (fun A9 g9 h9 => ?_)
    · rw [hsl m hm]
      refine congrArg nI ?_
      by_cases h6 : m + 1 < j + 1
      · rw [if_pos h6]
        unfold rmF
        rw [if_pos (by omega)]
      · rw [if_neg h6]
    refine x_al1 (pc := 45) rfl rfl ?_
    refine x_step (pc := 46) (pc' := 47) (st' := [.ref 23, .ref 23]) rfl rfl rfl rfl ?_
    refine g_23_5 (pc := 47) (v := nI cn) rfl rfl hc ?_
    refine x_const (pc := 50) (pc' := 51) (.int (nI 1)) rfl rfl rfl rfl ?_
    refine x_isubN (pc := 51) rfl ((by omega)) ?_
    refine p_23_5 (pc := 52) rfl rfl ?_
    refine x_ret (pc := 55) rfl rfl ?_
    exact kk A9 g9 h9
  · omega
set_option maxRecDepth 100000 in
set_option maxHeartbeats 4000000 in
theorem l_101_3 {cn j : Nat} {f : Nat → Nat} (hcn : cn ≤ 16) (hj : j < cn) (hc : I 49 = nI cn) {Q : mO × mHp → Prop} : ∀ (z k : Nat) {A : Nat → Nat → Int32}, (k + z = cn) → (j + 1 ≤ k) → (∀ m, m < cn → A 42 m = nI (if m + 1 < k then rmF f j m else f m)) → (∀ A', Fr [42] A A' → (∀ m, m < cn - 1 → A' 42 m = nI (rmF f j m)) → mq 101 45 [some (.ref 28), some (.int (nI j)), some (.int (nI cn))] [] (hS n u I A' J B mk sn L xs X) Q) → mq 101 17 [some (.ref 28), some (.int (nI j)), some (.int (nI k))] [] (hS n u I A J B mk sn L xs X) Q := by
  intro z
  induction z with
  | zero =>
    intro k A hz hk hA kk
    refine x_il1 (pc := 17) rfl rfl ?_
    refine x_al1 (pc := 18) rfl rfl ?_
    refine g_28_5 (pc := 19) (v := nI cn) rfl rfl hc ?_
    refine x_cmpN_ge (pc := 22) (t := 45) rfl rfl (by omega) (by omega) (fun c22 => ?_) (fun c22 => ?_)
    · rw [show k = cn by omega]
      exact kk A (Fr_refl _ _) (fun m hm => (hA m (by omega)).trans (congrArg nI (if_pos (by omega))))
    · omega
  | succ z ih =>
    intro k A hz hk hA kk
    refine x_il1 (pc := 17) rfl rfl ?_
    refine x_al1 (pc := 18) rfl rfl ?_
    refine g_28_5 (pc := 19) (v := nI cn) rfl rfl hc ?_
    refine x_cmpN_ge (pc := 22) (t := 45) rfl rfl (by omega) (by omega) (fun c22 => ?_) (fun c22 => ?_)
    · omega
    · refine x_al1 (pc := 25) rfl rfl ?_
      refine g_28_1 (pc := 26) rfl rfl ?_
      refine x_il1 (pc := 29) rfl rfl ?_
      refine x_const (pc := 30) (pc' := 31) (.int (nI 1)) rfl rfl rfl rfl ?_
      refine x_isubN (pc := 31) rfl ((by omega)) ?_
      refine x_al1 (pc := 32) rfl rfl ?_
      refine g_28_1 (pc := 33) rfl rfl ?_
      refine x_il1 (pc := 36) rfl rfl ?_
      refine al_29 (pc := 37) (q := k) (v := nI (f k)) rfl rfl (by omega) ((hA k (by omega)).trans (congrArg nI (if_neg (by omega)))) ?_
      refine as_29 (pc := 38) (q := k - 1) rfl rfl (by omega) ?_
      refine x_iincN (pc := 39) (c := 1) (ml' := [some (.ref 28), some (.int (nI j)), some (.int (nI (k + 1)))]) rfl rfl rfl rfl ?_
      refine x_step (pc := 42) (pc' := 17) rfl rfl rfl rfl ?_
      refine ih (k + 1) (A := va_up A 42 (upd (A 42) (k - 1) (nI (f k)))) (by omega) (by omega) (fun m hm => ?_) (fun A9 g9 h9 => kk A9 (Fr_cons (Fr_u (Fr_refl _ _) (by decide)) g9 (by decide)) h9)
      by_cases h5 : m = k - 1
      · subst h5
        refine pk_us.trans (congrArg nI ?_)
        rw [if_pos (by omega)]
        unfold rmF
        rw [if_neg (by omega), show k - 1 + 1 = k by omega]
      · refine (pk_un h5).trans ((hA m hm).trans (congrArg nI ?_))
        by_cases h6 : m + 1 < k
        · rw [if_pos h6, if_pos (by omega)]
        · rw [if_neg h6, if_neg (by omega)]
set_option maxRecDepth 100000 in
set_option maxHeartbeats 4000000 in
theorem k_101_3 {cn j : Nat} {f : Nat → Nat} (hcn : cn ≤ 16) (hj : j < cn) (hc : I 49 = nI cn) (hsl : ∀ m, m < cn → A 42 m = nI (f m)) {Q : mO × mHp → Prop} (kk : ∀ A', Fr [42] A A' → (∀ m, m < cn - 1 → A' 42 m = nI (rmF f j m)) → Q (.inl none, hS n u (va_up I 49 (nI (cn - 1))) A' J B mk sn L xs X)) : mq 101 0 [some (.ref 28), some (.int (nI j)), none] [] (hS n u I A J B mk sn L xs X) Q := by
  refine x_il1 (pc := 0) rfl rfl ?_
  refine x_ifN_lt (pc := 1) (t := 12) rfl rfl (by omega) ?_
  refine x_il1 (pc := 4) rfl rfl ?_
  refine x_al1 (pc := 5) rfl rfl ?_
  refine g_28_5 (pc := 6) (v := nI cn) rfl rfl hc ?_
  refine x_cmpN_lt (pc := 9) (t := 13) rfl rfl (by omega) (by omega) (fun c9 => ?_) (fun c9 => ?_)
  · refine x_il1 (pc := 13) rfl rfl ?_
    refine x_const (pc := 14) (pc' := 15) (.int (nI 1)) rfl rfl rfl rfl ?_
    refine x_iaddN (pc := 15) (c := j + 1) rfl rfl ?_
    refine x_is1 (pc := 16) (ml' := [some (.ref 28), some (.int (nI j)), some (.int (nI (j + 1)))]) rfl rfl ?_
    refine l_101_3 (f := f) hcn hj hc (cn - j - 1) (j + 1) (by omega) (Nat.le_refl _) (fun m hm => ?_) (fun A9 g9 h9 => ?_)
    · rw [hsl m hm]
      refine congrArg nI ?_
      by_cases h6 : m + 1 < j + 1
      · rw [if_pos h6]
        unfold rmF
        rw [if_pos (by omega)]
      · rw [if_neg h6]
    refine x_al1 (pc := 45) rfl rfl ?_
    refine x_step (pc := 46) (pc' := 47) (st' := [.ref 28, .ref 28]) rfl rfl rfl rfl ?_
    refine g_28_5 (pc := 47) (v := nI cn) rfl rfl hc ?_
    refine x_const (pc := 50) (pc' := 51) (.int (nI 1)) rfl rfl rfl rfl ?_
    refine x_isubN (pc := 51) rfl ((by omega)) ?_
    refine p_28_5 (pc := 52) rfl rfl ?_
    refine x_ret (pc := 55) rfl rfl ?_
    exact kk A9 g9 h9
  · omega
theorem mkS_le {D : Nat → Nat} {f bc : Nat → Nat} {cn : Nat} (hf : ∀ k, k < cn → f k < 16 ∧ WS D (f k) (bc (f k))) : mkS D f (cn - 1) 1 ≤ 128 * (cn - 1) := by
  have h : ∀ z i, i + z ≤ cn → mkS D f z i ≤ 128 * z := by
    intro z
    induction z with
    | zero => exact fun i _ => Nat.le_refl 0
    | succ z ih =>
      intro i hi
      have h1 := ih (i + 1) (by omega)
      have h2 := (hf i (by omega)).2.1
      show mB D (f i) + mkS D f z (i + 1) ≤ 128 * (z + 1)
      omega
  rcases Nat.eq_zero_or_pos cn with h0 | h0
  · subst h0
    exact Nat.le_refl 0
  · exact h (cn - 1) 1 (by omega)
set_option maxRecDepth 100000 in
set_option maxHeartbeats 4000000 in
theorem k_105_0 (h : DK (A 0) D) {cn : Nat} {f bc : Nat → Nat} {lim : Int64} (hcn : cn ≤ 16) (hf : ∀ k, k < cn → f k < 16 ∧ WS D (f k) (bc (f k))) (hlim : (-9223372036854775808 : Int64) < lim) (hc : I 40 = nI cn) (hsl : ∀ j, j < cn → A 30 j = nI (f j)) {Q : mO × mHp → Prop} (kk : ∀ I' A', Fr [4, 5, 6, 7, 8, 9, 10, 20, 21, 22] I I' → Fr [10, 11, 12, 13, 14] A A' → Q (.inl (some (.int (nI (if go D f bc cn lim = true then 1 else 0)))), hS n u I' A' J B mk sn L xs X)) : mq 105 0 [some (.ref 1), some (.ref 13), some (.long lim), none] [] (hS n u I A J B mk sn L xs X) Q := by
  refine x_al1 (pc := 0) rfl rfl ?_
  refine g_13_5 (pc := 1) (v := nI cn) rfl rfl hc ?_
  refine x_const (pc := 4) (pc' := 5) (.int (nI 1)) rfl rfl rfl rfl ?_
  refine x_cmpN_le (pc := 5) (t := 39) rfl rfl (by omega) (by omega) (fun c5 => ?_) (fun c5 => ?_)
  · have eg : go D f bc cn lim = false := by
      unfold go
      rw [decide_eq_false (by omega)]
      rfl
    rw [eg] at kk
    refine x_const (pc := 39) (pc' := 40) (.int (nI 0)) rfl rfl rfl rfl ?_
    refine x_ret (pc := 40) rfl rfl ?_
    exact kk _ _ (Fr_refl _ _) (Fr_refl _ _)
  · refine x_al1 (pc := 8) rfl rfl ?_
    refine x_al1 (pc := 9) rfl rfl ?_
    refine g_13_1 (pc := 10) rfl rfl ?_
    refine x_const (pc := 13) (pc' := 14) (.int (nI 0)) rfl rfl rfl rfl ?_
    refine al_14 (pc := 14) (q := 0) (v := nI (f 0)) rfl rfl (by decide) (hsl 0 (by omega)) ?_
    refine x_k (pc := 15) rfl rfl rfl ⟨Nat.le_of_ble_eq_true rfl, Nat.le_of_ble_eq_true rfl, Nat.le_of_ble_eq_true rfl⟩ rfl (k_106 (I := I) (A := A) (lim := lim) h (hf 0 (by omega)).1 (hf 0 (by omega)).2 hlim (fun I1 A1 G f1 g1 hG => ?_))
    show mq 105 18 [some (.ref 1), some (.ref 13), some (.long lim), none] [.long G] (hS n u I1 A1 J B mk sn L xs X) _
    refine x_step (pc := 18) (pc' := 19) rfl rfl rfl rfl ?_
    refine x_step (pc := 19) (pc' := 20) (st' := [.int (lg_cmp G lim)]) rfl rfl rfl rfl ?_
    refine x_if_lt (pc := 20) (t := 35) rfl rfl rfl (fun c20 => ?_) (fun c20 => ?_)
    · have eg : go D f bc cn lim = true := by
        unfold go
        rw [decide_eq_true (show 1 < cn by omega), hG.mp (lg_lt.mp c20)]
        rfl
      rw [eg] at kk
      refine x_const (pc := 35) (pc' := 36) (.int (nI 1)) rfl rfl rfl rfl ?_
      refine x_step (pc := 36) (pc' := 40) rfl rfl rfl rfl ?_
      refine x_ret (pc := 40) rfl rfl ?_
      exact kk _ _ (Fr_cons (Fr_refl _ _) f1 (by decide)) (Fr_cons (Fr_refl _ _) g1 (by decide))
    · have eT : tS D (f 0) lim (bc (f 0)) 0 = false := ne_true (fun q => c20 (lg_lt.mpr (hG.mpr q)))
      have hms := mkS_le hf
      refine x_al1 (pc := 23) rfl rfl ?_
      refine x_al1 (pc := 24) rfl rfl ?_
      refine x_const (pc := 25) (pc' := 26) (.int (nI 1)) rfl rfl rfl rfl ?_
      refine x_k (pc := 26) rfl rfl rfl ⟨Nat.le_of_ble_eq_true rfl, Nat.le_of_ble_eq_true rfl, Nat.le_of_ble_eq_true rfl⟩ rfl (k_49_0 (I := I1) (A := A1) (D := D) (bc := bc) (by rw [g1 0 (by decide)]; exact h) (Nat.le_refl 1) hcn hf ((f1 40 (by decide)).trans hc) (fun j hj => by rw [g1 30 (by decide)]; exact hsl j hj) ?_)
      show mq 105 29 [some (.ref 1), some (.ref 13), some (.long lim), none] [.int (nI (mkS D f (cn - 1) 1))] (hS n u I1 A1 J B mk sn L xs X) _
      refine x_const (pc := 29) (pc' := 32) (.int (nI 240)) rfl rfl rfl rfl ?_
      refine x_cmpN_lt (pc := 32) (t := 39) rfl rfl (by omega) (by omega) (fun c32 => ?_) (fun c32 => ?_)
      · have eg : go D f bc cn lim = false := by
          unfold go
          rw [decide_eq_true (show 1 < cn by omega), eT, decide_eq_false (by omega)]
          rfl
        rw [eg] at kk
        refine x_const (pc := 39) (pc' := 40) (.int (nI 0)) rfl rfl rfl rfl ?_
        refine x_ret (pc := 40) rfl rfl ?_
        exact kk _ _ (Fr_cons (Fr_refl _ _) f1 (by decide)) (Fr_cons (Fr_refl _ _) g1 (by decide))
      · have eg : go D f bc cn lim = true := by
          unfold go
          rw [decide_eq_true (show 1 < cn by omega), decide_eq_true (show 240 ≤ mkS D f (cn - 1) 1 by omega), Bool.or_true]
          rfl
        rw [eg] at kk
        refine x_const (pc := 35) (pc' := 36) (.int (nI 1)) rfl rfl rfl rfl ?_
        refine x_step (pc := 36) (pc' := 40) rfl rfl rfl rfl ?_
        refine x_ret (pc := 40) rfl rfl ?_
        exact kk _ _ (Fr_cons (Fr_refl _ _) f1 (by decide)) (Fr_cons (Fr_refl _ _) g1 (by decide))
set_option maxRecDepth 100000 in
set_option maxHeartbeats 4000000 in
theorem k_105_1 (h : DK (A 0) D) {cn : Nat} {f bc : Nat → Nat} {lim : Int64} (hcn : cn ≤ 16) (hf : ∀ k, k < cn → f k < 16 ∧ WS D (f k) (bc (f k))) (hlim : (-9223372036854775808 : Int64) < lim) (hc : I 43 = nI cn) (hsl : ∀ j, j < cn → A 34 j = nI (f j)) {Q : mO × mHp → Prop} (kk : ∀ I' A', Fr [4, 5, 6, 7, 8, 9, 10, 20, 21, 22] I I' → Fr [10, 11, 12, 13, 14] A A' → Q (.inl (some (.int (nI (if go D f bc cn lim = true then 1 else 0)))), hS n u I' A' J B mk sn L xs X)) : mq 105 0 [some (.ref 1), some (.ref 18), some (.long lim), none] [] (hS n u I A J B mk sn L xs X) Q := by
  refine x_al1 (pc := 0) rfl rfl ?_
  refine g_18_5 (pc := 1) (v := nI cn) rfl rfl hc ?_
  refine x_const (pc := 4) (pc' := 5) (.int (nI 1)) rfl rfl rfl rfl ?_
  refine x_cmpN_le (pc := 5) (t := 39) rfl rfl (by omega) (by omega) (fun c5 => ?_) (fun c5 => ?_)
  · have eg : go D f bc cn lim = false := by
      unfold go
      rw [decide_eq_false (by omega)]
      rfl
    rw [eg] at kk
    refine x_const (pc := 39) (pc' := 40) (.int (nI 0)) rfl rfl rfl rfl ?_
    refine x_ret (pc := 40) rfl rfl ?_
    exact kk _ _ (Fr_refl _ _) (Fr_refl _ _)
  · refine x_al1 (pc := 8) rfl rfl ?_
    refine x_al1 (pc := 9) rfl rfl ?_
    refine g_18_1 (pc := 10) rfl rfl ?_
    refine x_const (pc := 13) (pc' := 14) (.int (nI 0)) rfl rfl rfl rfl ?_
    refine al_19 (pc := 14) (q := 0) (v := nI (f 0)) rfl rfl (by decide) (hsl 0 (by omega)) ?_
    refine x_k (pc := 15) rfl rfl rfl ⟨Nat.le_of_ble_eq_true rfl, Nat.le_of_ble_eq_true rfl, Nat.le_of_ble_eq_true rfl⟩ rfl (k_106 (I := I) (A := A) (lim := lim) h (hf 0 (by omega)).1 (hf 0 (by omega)).2 hlim (fun I1 A1 G f1 g1 hG => ?_))
    show mq 105 18 [some (.ref 1), some (.ref 18), some (.long lim), none] [.long G] (hS n u I1 A1 J B mk sn L xs X) _
    refine x_step (pc := 18) (pc' := 19) rfl rfl rfl rfl ?_
    refine x_step (pc := 19) (pc' := 20) (st' := [.int (lg_cmp G lim)]) rfl rfl rfl rfl ?_
    refine x_if_lt (pc := 20) (t := 35) rfl rfl rfl (fun c20 => ?_) (fun c20 => ?_)
    · have eg : go D f bc cn lim = true := by
        unfold go
        rw [decide_eq_true (show 1 < cn by omega), hG.mp (lg_lt.mp c20)]
        rfl
      rw [eg] at kk
      refine x_const (pc := 35) (pc' := 36) (.int (nI 1)) rfl rfl rfl rfl ?_
      refine x_step (pc := 36) (pc' := 40) rfl rfl rfl rfl ?_
      refine x_ret (pc := 40) rfl rfl ?_
      exact kk _ _ (Fr_cons (Fr_refl _ _) f1 (by decide)) (Fr_cons (Fr_refl _ _) g1 (by decide))
    · have eT : tS D (f 0) lim (bc (f 0)) 0 = false := ne_true (fun q => c20 (lg_lt.mpr (hG.mpr q)))
      have hms := mkS_le hf
      refine x_al1 (pc := 23) rfl rfl ?_
      refine x_al1 (pc := 24) rfl rfl ?_
      refine x_const (pc := 25) (pc' := 26) (.int (nI 1)) rfl rfl rfl rfl ?_
      refine x_k (pc := 26) rfl rfl rfl ⟨Nat.le_of_ble_eq_true rfl, Nat.le_of_ble_eq_true rfl, Nat.le_of_ble_eq_true rfl⟩ rfl (k_49_1 (I := I1) (A := A1) (D := D) (bc := bc) (by rw [g1 0 (by decide)]; exact h) (Nat.le_refl 1) hcn hf ((f1 43 (by decide)).trans hc) (fun j hj => by rw [g1 34 (by decide)]; exact hsl j hj) ?_)
      show mq 105 29 [some (.ref 1), some (.ref 18), some (.long lim), none] [.int (nI (mkS D f (cn - 1) 1))] (hS n u I1 A1 J B mk sn L xs X) _
      refine x_const (pc := 29) (pc' := 32) (.int (nI 240)) rfl rfl rfl rfl ?_
      refine x_cmpN_lt (pc := 32) (t := 39) rfl rfl (by omega) (by omega) (fun c32 => ?_) (fun c32 => ?_)
      · have eg : go D f bc cn lim = false := by
          unfold go
          rw [decide_eq_true (show 1 < cn by omega), eT, decide_eq_false (by omega)]
          rfl
        rw [eg] at kk
        refine x_const (pc := 39) (pc' := 40) (.int (nI 0)) rfl rfl rfl rfl ?_
        refine x_ret (pc := 40) rfl rfl ?_
        exact kk _ _ (Fr_cons (Fr_refl _ _) f1 (by decide)) (Fr_cons (Fr_refl _ _) g1 (by decide))
      · have eg : go D f bc cn lim = true := by
          unfold go
          rw [decide_eq_true (show 1 < cn by omega), decide_eq_true (show 240 ≤ mkS D f (cn - 1) 1 by omega), Bool.or_true]
          rfl
        rw [eg] at kk
        refine x_const (pc := 35) (pc' := 36) (.int (nI 1)) rfl rfl rfl rfl ?_
        refine x_step (pc := 36) (pc' := 40) rfl rfl rfl rfl ?_
        refine x_ret (pc := 40) rfl rfl ?_
        exact kk _ _ (Fr_cons (Fr_refl _ _) f1 (by decide)) (Fr_cons (Fr_refl _ _) g1 (by decide))
end S60
