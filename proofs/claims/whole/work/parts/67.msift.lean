/-! A slot is sifted: the model. -/
/-- whether a key comes again behind an offset: in a batch, a slot, a log -/
def caB (D : Nat → Nat) (b q : Nat) (o y : Int32) : Nat → Nat → Bool
  | 0, _ => false
  | z + 1, k => if kR D q k = y ∧ o < oR D b q k then true else caB D b q o y z (k + 1)
def caS (D : Nat → Nat) (s : Nat) (o y : Int32) : Nat → Nat → Bool
  | 0, _ => false
  | z + 1, j => caB D (bB D s) (sb D s j) o y (bN D (sb D s j)) 0 || caS D s o y z (j + 1)
def caL (D : Nat → Nat) (f bc : Nat → Nat) (o y : Int32) : Nat → Bool
  | 0 => false
  | k + 1 => caS D (f k) o y (bc (f k)) 0 || caL D f bc o y k
/-- whether a cleaning leaves out the k-th record of the j-th batch of slot s -/
def pm (D : Nat → Nat) (f bc : Nat → Nat) (n : Nat) (lim : Int64) (s j k : Nat) : Bool := (decide (dR D (sb D s j) k = 1) && decide ((tR D (sb D s j) k).toInt64 < lim)) || caL D f bc (oR D (bB D s) (sb D s j) k) (kR D (sb D s j) k) n
/-- the mask of what stays -/
def mkM (p : Nat → Bool) : Nat → Nat
  | 0 => 0
  | k + 1 => mkM p k + (if p k = true then 0 else 2 ^ k)
theorem mkM_lt (p : Nat → Bool) : ∀ k, mkM p k < 2 ^ k
  | 0 => Nat.one_pos
  | k + 1 => by
    have h := mkM_lt p k
    have e : 2 ^ (k + 1) = 2 ^ k * 2 := Nat.pow_succ 2 k
    show mkM p k + (if p k = true then 0 else 2 ^ k) < 2 ^ (k + 1)
    rw [e]
    split <;> omega
theorem mkM_bit (p : Nat → Bool) : ∀ n i, i < n → mkM p n / 2 ^ i % 2 ^ 1 = if p i = true then 0 else 1
  | 0, i, h => absurd h (Nat.not_lt_zero i)
  | n + 1, i, h => by
    have hl := mkM_lt p n
    show (mkM p n + (if p n = true then 0 else 2 ^ n)) / 2 ^ i % 2 ^ 1 = _
    by_cases hi : i = n
    · subst hi
      by_cases hp : p i = true
      · rw [if_pos hp, if_pos hp, Nat.add_zero, Nat.div_eq_of_lt hl]
      · rw [if_neg hp, if_neg hp, Nat.add_div_right _ (Nat.two_pow_pos i), Nat.div_eq_of_lt hl]
    · have ih := mkM_bit p n i (by omega)
      by_cases hp : p n = true
      · rw [if_pos hp, Nat.add_zero]
        exact ih
      · rw [if_neg hp]
        obtain ⟨d, hd⟩ : ∃ d, n = i + (d + 1) := ⟨n - i - 1, by omega⟩
        have e : 2 ^ n = 2 ^ i * (2 ^ d * 2) := by rw [hd, Nat.pow_add, Nat.pow_succ]
        rw [e, Nat.add_mul_div_left _ _ (Nat.two_pow_pos i), show 2 ^ 1 = 2 from rfl, Nat.add_mul_mod_self_right]
        exact ih
def kcF (g : Nat → R5) (p : Nat → Bool) : Nat → Nat → List R5
  | 0, _ => []
  | z + 1, i => if p i = true then kcF g p z (i + 1) else g i :: kcF g p z (i + 1)
theorem kc_F (g : Nat → R5) (p : Nat → Bool) : ∀ z i, kc g p (i + z) = kc g p i ++ kcF g p z i
  | 0, i => (List.append_nil _).symm
  | z + 1, i => by
    rw [show i + (z + 1) = i + 1 + z by omega, kc_F g p z (i + 1)]
    show (if p i = true then kc g p i else kc g p i ++ [g i]) ++ kcF g p z (i + 1) = kc g p i ++ (if p i = true then kcF g p z (i + 1) else g i :: kcF g p z (i + 1))
    by_cases h : p i = true
    · rw [if_pos h, if_pos h]
    · rw [if_neg h, if_neg h, List.append_assoc]
      rfl
theorem kp_F (g : Nat → R5) (p : Nat → Bool) (m : Nat) : ∀ z i, (∀ j, i ≤ j → j < i + z → m / 2 ^ j % 2 ^ 1 = if p j = true then 0 else 1) → kp g m z i = kcF g p z i
  | 0, _, _ => rfl
  | z + 1, i, h => by
    have h1 := h i (Nat.le_refl _) (by omega)
    have h2 := kp_F g p m z (i + 1) (fun j a b => h j (by omega) (by omega))
    show (if m / 2 ^ i % 2 ^ 1 = 0 then kp g m z (i + 1) else g i :: kp g m z (i + 1)) = (if p i = true then kcF g p z (i + 1) else g i :: kcF g p z (i + 1))
    rw [h1, h2]
    by_cases hp : p i = true
    · rw [if_pos hp, if_pos rfl, if_pos hp]
    · rw [if_neg hp, if_neg (by decide), if_neg hp]
theorem kp_kc (g : Nat → R5) (p : Nat → Bool) (n : Nat) : kp g (mkM p n) n 0 = kc g p n := by
  have h1 := kp_F g p (mkM p n) n 0 (fun j _ hj => mkM_bit p n j (by omega))
  have h2 := kc_F g p n 0
  rw [Nat.zero_add] at h2
  rw [h1, h2]
  rfl
theorem bcn_kc (g : Nat → R5) (p : Nat → Bool) (n : Nat) : bcn (mkM p n) n = (kc g p n).length := by
  have h := kp_len g (mkM p n) n 0
  rw [kp_kc, Nat.zero_add] at h
  exact h.symm
/-- the first that stays -/
theorem mkM_first (p : Nat → Bool) : ∀ n, ¬ mkM p n = 0 → ∃ k, k < n ∧ p k = false ∧ ∀ i, i < k → p i = true
  | 0, h => absurd rfl h
  | n + 1, h => by
    by_cases h0 : mkM p n = 0
    · refine ⟨n, Nat.lt_succ_self n, ?_, ?_⟩
      · refine ne_true (fun q => h ?_)
        show mkM p n + (if p n = true then 0 else 2 ^ n) = 0
        rw [if_pos q, h0]
      · intro i hi
        have h1 := mkM_bit p n i hi
        rw [h0, Nat.zero_div] at h1
        refine Decidable.byContradiction (fun q => ?_)
        rw [if_neg q] at h1
        exact absurd h1 (by decide)
    · obtain ⟨k, hk, h1, h2⟩ := mkM_first p n h0
      exact ⟨k, by omega, h1, h2⟩
theorem kc_0 (g : Nat → R5) (p : Nat → Bool) (n : Nat) (h : mkM p n = 0) : (kc g p n).length = 0 := by
  rw [← bcn_kc g p n, h]
  exact bcn_0 (fun i _ => by rw [Nat.zero_div])
theorem kp_first (g : Nat → R5) (p : Nat → Bool) {n k : Nat} (hk : k < n) (h : ∀ i, i < k → p i = true) : kp g (mkM p n) (n - k) k = kc g p n := by
  rw [← kp_kc g p n]
  have h1 := kp_skip (g := g) (m := mkM p n) (z := n - k) (k := k) (i := 0) (fun j _ hj => by
    rw [mkM_bit p n j (by omega), if_pos (h j (by omega))])
  rw [show k + (n - k) = n by omega, Nat.zero_add] at h1
  exact h1.symm
theorem shlk {k : Nat} (hk : k < 4) : nI 1 <<< (nI k &&& 31) = nI (2 ^ k) := by
  match k, hk with
  | 0, _ => decide
  | 1, _ => decide
  | 2, _ => decide
  | 3, _ => decide
section S67
variable {n u : Nat} {I : Nat → Int32} {A : Nat → Nat → Int32} {J : Int64} {B : Nat → Int64} {mk sn L : Nat} {xs : Nat → Int32} {X : Nat → mC} {D : Nat → Nat} 
set_option maxRecDepth 100000 in
set_option maxHeartbeats 4000000 in
theorem l_149r {l x s b q m : Nat} {o y : Int32} (hm : m ≤ 4) (h65 : I 65 = nI m) (hr : GBn A D b q m) {Q : mO × mHp → Prop} : ∀ (z k : Nat), k + z = m → (caB D b q o y z k = true → Q (.inl (some (.int (nI 1))), hS n u I A J B mk sn L xs X)) → (caB D b q o y z k = false → mq 149 97 [some (.ref 67), some (.int (nI l)), some (.int o), some (.int y), some (.int (nI x)), some (.int (nI s)), some (.int (nI m))] [] (hS n u I A J B mk sn L xs X) Q) → mq 149 55 [some (.ref 67), some (.int (nI l)), some (.int o), some (.int y), some (.int (nI x)), some (.int (nI s)), some (.int (nI k))] [] (hS n u I A J B mk sn L xs X) Q := by
  intro z
  induction z with
  | zero =>
    intro k hz k1 k2
    refine x_il2 (pc := 55) rfl rfl ?_
    refine x_al1 (pc := 57) rfl rfl ?_
    refine g_67_9 (pc := 58) (v := nI m) rfl rfl h65 ?_
    refine x_cmpN_ge (pc := 61) (t := 97) rfl rfl (by omega) (by omega) (fun c61 => ?_) (fun c61 => ?_)
    · have hk : k = m := by omega
      subst hk
      exact k2 rfl
    · omega
  | succ z ih =>
    intro k hz k1 k2
    refine x_il2 (pc := 55) rfl rfl ?_
    refine x_al1 (pc := 57) rfl rfl ?_
    refine g_67_9 (pc := 58) (v := nI m) rfl rfl h65 ?_
    refine x_cmpN_ge (pc := 61) (t := 97) rfl rfl (by omega) (by omega) (fun c61 => ?_) (fun c61 => ?_)
    · omega
    · refine x_al1 (pc := 64) rfl rfl ?_
      refine g_67_7 (pc := 65) rfl rfl ?_
      refine x_const (pc := 68) (pc' := 70) (.int (nI 8)) rfl rfl rfl rfl ?_
      refine x_il2 (pc := 70) rfl rfl ?_
      refine x_iaddN (pc := 72) (c := 8 + k) rfl rfl ?_
      refine al_70 (pc := 73) (q := 8 + k) (v := kR D q k) rfl rfl (by omega) ((hr k (by omega)).2.2.1) ?_
      refine x_il1 (pc := 74) rfl rfl ?_
      refine x_cmp_ne (pc := 75) (t := 91) rfl rfl rfl (fun c75 => ?_) (fun c75 => ?_)
      · have e : caB D b q o y (z + 1) k = caB D b q o y z (k + 1) := if_neg (fun w => c75 w.1)
        rw [e] at k1 k2
        refine x_iincN (pc := 91) (c := 1) (ml' := [some (.ref 67), some (.int (nI l)), some (.int o), some (.int y), some (.int (nI x)), some (.int (nI s)), some (.int (nI (k + 1)))]) rfl rfl rfl rfl ?_
        refine x_step (pc := 94) (pc' := 55) rfl rfl rfl rfl ?_
        exact ih (k + 1) (by omega) k1 k2
      · refine x_al1 (pc := 78) rfl rfl ?_
        refine g_67_7 (pc := 79) rfl rfl ?_
        refine x_il2 (pc := 82) rfl rfl ?_
        refine al_70 (pc := 84) (q := k) (v := oR D b q k) rfl rfl (by omega) ((hr k (by omega)).1) ?_
        refine x_il1 (pc := 85) rfl rfl ?_
        refine x_cmp_le (pc := 86) (t := 91) rfl rfl rfl (fun c86 => ?_) (fun c86 => ?_)
        · have e : caB D b q o y (z + 1) k = caB D b q o y z (k + 1) := if_neg (fun w => absurd w.2 (Int32.not_lt.mpr c86))
          rw [e] at k1 k2
          refine x_iincN (pc := 91) (c := 1) (ml' := [some (.ref 67), some (.int (nI l)), some (.int o), some (.int y), some (.int (nI x)), some (.int (nI s)), some (.int (nI (k + 1)))]) rfl rfl rfl rfl ?_
          refine x_step (pc := 94) (pc' := 55) rfl rfl rfl rfl ?_
          exact ih (k + 1) (by omega) k1 k2
        · refine x_const (pc := 89) (pc' := 90) (.int (nI 1)) rfl rfl rfl rfl ?_
          refine x_ret (pc := 90) rfl rfl ?_
          exact k1 (if_pos ⟨c75, Int32.not_le.mp c86⟩)
set_option maxRecDepth 100000 in
set_option maxHeartbeats 4000000 in
theorem l_149b {l x s c : Nat} {o y : Int32} (hs : s < 16) (hW : WS D s c) {Q : mO × mHp → Prop} : ∀ (z j : Nat) (w6 : Option Value) {I : Nat → Int32} {A : Nat → Nat → Int32}, DK (A 50) D → j + z = c → I 71 = nI (sb D s j) → (caS D s o y z j = true → ∀ I' A', Fr [65, 66, 67, 71] I I' → Fr [52] A A' → Q (.inl (some (.int (nI 1))), hS n u I' A' J B mk sn L xs X)) → (caS D s o y z j = false → ∀ I' A' w6', Fr [65, 66, 67, 71] I I' → Fr [52] A A' → mq 149 100 [some (.ref 67), some (.int (nI l)), some (.int o), some (.int y), some (.int (nI x)), some (.int (nI s)), w6'] [] (hS n u I' A' J B mk sn L xs X) Q) → mq 149 33 [some (.ref 67), some (.int (nI l)), some (.int o), some (.int y), some (.int (nI x)), some (.int (nI s)), w6] [] (hS n u I A J B mk sn L xs X) Q := by
  intro z
  induction z with
  | zero =>
    intro j w6 I A h hz h71 k1 k2
    have q1 := WS_128 hW
    have hj : j = c := by omega
    have hjc : sb D s j = 128 * s + mB D s := by rw [hj]; exact WS_end hW
    refine x_al1 (pc := 33) rfl rfl ?_
    refine g_67_19 (pc := 34) (v := nI (sb D s j)) rfl rfl h71 ?_
    refine x_al1 (pc := 37) rfl rfl ?_
    refine x_il2 (pc := 38) rfl rfl ?_
    refine x_k (pc := 40) rfl rfl rfl ⟨Nat.le_of_ble_eq_true rfl, Nat.le_of_ble_eq_true rfl, Nat.le_of_ble_eq_true rfl⟩ rfl (k_122 (I := I) (A := A) h hs ?_)
    show mq 149 43 [some (.ref 67), some (.int (nI l)), some (.int o), some (.int y), some (.int (nI x)), some (.int (nI s)), w6] [.int (nI (128 * s + mB D s)), .int (nI (sb D s j))] (hS n u I A J B mk sn L xs X) _
    refine x_cmpN_ge (pc := 43) (t := 100) rfl rfl (by omega) (by omega) (fun c43 => ?_) (fun c43 => ?_)
    · exact k2 rfl I A w6 (Fr_refl _ _) (Fr_refl _ _)
    · omega
  | succ z ih =>
    intro j w6 I A h hz h71 k1 k2
    have q1 := WS_128 hW
    have hj : j < c := by omega
    have q2 := WS_in hW hj
    refine x_al1 (pc := 33) rfl rfl ?_
    refine g_67_19 (pc := 34) (v := nI (sb D s j)) rfl rfl h71 ?_
    refine x_al1 (pc := 37) rfl rfl ?_
    refine x_il2 (pc := 38) rfl rfl ?_
    refine x_k (pc := 40) rfl rfl rfl ⟨Nat.le_of_ble_eq_true rfl, Nat.le_of_ble_eq_true rfl, Nat.le_of_ble_eq_true rfl⟩ rfl (k_122 (I := I) (A := A) h hs ?_)
    show mq 149 43 [some (.ref 67), some (.int (nI l)), some (.int o), some (.int y), some (.int (nI x)), some (.int (nI s)), w6] [.int (nI (128 * s + mB D s)), .int (nI (sb D s j))] (hS n u I A J B mk sn L xs X) _
    refine x_cmpN_ge (pc := 43) (t := 100) rfl rfl (by omega) (by omega) (fun c43 => ?_) (fun c43 => ?_)
    · omega
    · refine x_al1 (pc := 46) rfl rfl ?_
      refine x_il2 (pc := 47) rfl rfl ?_
      refine x_k (pc := 49) rfl rfl rfl ⟨Nat.le_of_ble_eq_true rfl, Nat.le_of_ble_eq_true rfl, Nat.le_of_ble_eq_true rfl⟩ rfl (k_124 (I := I) (A := A) (k := s) (q := sb D s j) h hs h71 (WS_b hW hj).2.1 (WS_b hW hj).2.2.1 (by rw [WS_rq hW hj]; omega) (fun I1 A1 f1 g1 e1 hg => ?_))
      show mq 149 52 [some (.ref 67), some (.int (nI l)), some (.int o), some (.int y), some (.int (nI x)), some (.int (nI s)), w6] [] (hS n u I1 A1 J B mk sn L xs X) _
      refine x_const (pc := 52) (pc' := 53) (.int (nI 0)) rfl rfl rfl rfl ?_
      refine x_is2 (pc := 53) (ml' := [some (.ref 67), some (.int (nI l)), some (.int o), some (.int y), some (.int (nI x)), some (.int (nI s)), some (.int (nI 0))]) rfl rfl ?_
      refine l_149r (A := A1) (b := bB D s) (q := sb D s j) (m := bN D (sb D s j)) (WS_b hW hj).2.1 hg.2.2.1 hg.2.2.2 (bN D (sb D s j)) 0 (Nat.zero_add _) (fun hv => ?_) (fun hv => ?_)
      · exact k1 (by show (_ || _) = true; rw [hv]; rfl) I1 A1 f1 g1
      · have ev : caS D s o y (z + 1) j = caS D s o y z (j + 1) := by
          show (_ || _) = _
          rw [hv]
          rfl
        rw [ev] at k1 k2
        refine x_step (pc := 97) (pc' := 33) rfl rfl rfl rfl ?_
        exact ih (j + 1) _ (I := I1) (A := A1) (by rw [g1 50 (by decide)]; exact h) (by omega) (e1.trans (congrArg nI (WS_rq hW hj))) (fun hv I2 A2 f2 g2 => k1 hv I2 A2 (Fr_cons f1 f2 (by decide)) (Fr_cons g1 g2 (by decide))) (fun hv I2 A2 w f2 g2 => k2 hv I2 A2 w (Fr_cons f1 f2 (by decide)) (Fr_cons g1 g2 (by decide)))
set_option maxRecDepth 100000 in
set_option maxHeartbeats 4000000 in
theorem l_149 {l cn : Nat} {f bc : Nat → Nat} {o y : Int32} (hl : l < 4) (hG : SG D l f cn) (hW : ∀ k, k < cn → WS D (f k) (bc (f k))) {Q : mO × mHp → Prop} : ∀ (m : Nat) {k : Int32} (w5 w6 : Option Value) {I : Nat → Int32} {A : Nat → Nat → Int32}, DK (A 50) D → m ≤ cn → k = nI m - 1 → I 61 = nI 0 → (∀ I' A', Fr [65, 66, 67, 71] I I' → Fr [52] A A' → Q (.inl (some (.int (nI (if caL D f bc o y m = true then 1 else 0)))), hS n u I' A' J B mk sn L xs X)) → mq 149 9 [some (.ref 67), some (.int (nI l)), some (.int o), some (.int y), some (.int k), w5, w6] [] (hS n u I A J B mk sn L xs X) Q := by
  intro m
  induction m with
  | zero =>
    intro k w5 w6 I A h hm hk h61 kk
    have e : k = -1 := hk.trans (by decide)
    subst e
    refine x_il2 (pc := 9) rfl rfl ?_
    refine x_if_lt (pc := 11) (t := 106) rfl rfl rfl (fun _ => ?_) (fun c => absurd (by decide) c)
    refine x_const (pc := 106) (pc' := 107) (.int (nI 0)) rfl rfl rfl rfl ?_
    refine x_ret (pc := 107) rfl rfl ?_
    exact kk I A (Fr_refl _ _) (Fr_refl _ _)
  | succ m ih =>
    intro k w5 w6 I A h hm hk h61 kk
    have e : k = nI m := hk.trans (by rw [show (1 : Int32) = nI 1 from rfl, pk_sub (by omega)]; rfl)
    subst e
    have q16 := SG_le hG
    refine x_il2 (pc := 9) rfl rfl ?_
    refine x_ifN_lt (pc := 11) (t := 106) rfl rfl (by omega) ?_
    refine x_al1 (pc := 14) rfl rfl ?_
    refine x_il1 (pc := 15) rfl rfl ?_
    refine x_il2 (pc := 16) rfl rfl ?_
    refine x_k (pc := 18) rfl rfl rfl ⟨Nat.le_of_ble_eq_true rfl, Nat.le_of_ble_eq_true rfl, Nat.le_of_ble_eq_true rfl⟩ rfl (k_119 (I := I) (A := A) (m := m) h hG (by omega) hl h61 ?_)
    show mq 149 21 [some (.ref 67), some (.int (nI l)), some (.int o), some (.int y), some (.int (nI m)), w5, w6] [.int (nI (f m))] (hS n u I A J B mk sn L xs X) _
    refine x_is2 (pc := 21) (ml' := [some (.ref 67), some (.int (nI l)), some (.int o), some (.int y), some (.int (nI m)), some (.int (nI (f m))), w6]) rfl rfl ?_
    refine x_al1 (pc := 23) rfl rfl ?_
    refine x_al1 (pc := 24) rfl rfl ?_
    refine x_il2 (pc := 25) rfl rfl ?_
    refine x_k (pc := 27) rfl rfl rfl ⟨Nat.le_of_ble_eq_true rfl, Nat.le_of_ble_eq_true rfl, Nat.le_of_ble_eq_true rfl⟩ rfl (k_121 (I := I) (A := A) ?_)
    show mq 149 30 [some (.ref 67), some (.int (nI l)), some (.int o), some (.int y), some (.int (nI m)), some (.int (nI (f m))), w6] [.int (nI (128 * f m + 8)), .ref 67] (hS n u I A J B mk sn L xs X) _
    refine p_67_19 (pc := 30) rfl rfl ?_
    refine l_149b (I := va_up I 71 (nI (128 * f m + 8))) (A := A) (x := m) (s := f m) (c := bc (f m)) (o := o) (y := y) (hG.1 m (by omega)).1 (hW m (by omega)) (bc (f m)) 0 w6 h (Nat.zero_add _) rfl (fun hv I2 A2 f2 g2 => ?_) (fun hv I2 A2 w f2 g2 => ?_)
    · have e : caL D f bc o y (m + 1) = true := by
        show (_ || _) = true
        rw [hv]
        rfl
      rw [e] at kk
      exact kk I2 A2 (Fr_cons (Fr_u (Fr_refl _ _) (by decide)) f2 (by decide)) g2
    · have ev : caL D f bc o y (m + 1) = caL D f bc o y m := by
        show (_ || _) = _
        rw [hv]
        rfl
      rw [ev] at kk
      refine x_iincV (pc := 100) (v := nI m - 1) (ml' := [some (.ref 67), some (.int (nI l)), some (.int o), some (.int y), some (.int (nI m - 1)), some (.int (nI (f m))), w]) rfl rfl ((Int32.sub_eq_add_neg (nI m) 1).symm) rfl ?_
      refine x_step (pc := 103) (pc' := 9) rfl rfl rfl rfl ?_
      exact ih _ _ (I := I2) (A := A2) (by rw [g2 50 (by decide)]; exact h) (by omega) rfl ((f2 61 (by decide)).trans h61) (fun I3 A3 f3 g3 => kk I3 A3 (Fr_cons (Fr_cons (Fr_u (Fr_refl _ _) (by decide)) f2 (by decide)) f3 (by decide)) (Fr_cons g2 g3 (by decide)))
set_option maxRecDepth 100000 in
set_option maxHeartbeats 4000000 in
theorem k_149 (h : DK (A 50) D) {l cn : Nat} {f bc : Nat → Nat} {o y : Int32} (hl : l < 4) (hG : SG D l f cn) (hW : ∀ k, k < cn → WS D (f k) (bc (f k))) (h61 : I 61 = nI 0) {Q : mO × mHp → Prop} (kk : ∀ I' A', Fr [65, 66, 67, 71] I I' → Fr [52] A A' → Q (.inl (some (.int (nI (if caL D f bc o y cn = true then 1 else 0)))), hS n u I' A' J B mk sn L xs X)) : mq 149 0 [some (.ref 67), some (.int (nI l)), some (.int o), some (.int y), none, none, none] [] (hS n u I A J B mk sn L xs X) Q := by
  refine x_al1 (pc := 0) rfl rfl ?_
  refine x_il1 (pc := 1) rfl rfl ?_
  refine x_k (pc := 2) rfl rfl rfl ⟨Nat.le_of_ble_eq_true rfl, Nat.le_of_ble_eq_true rfl, Nat.le_of_ble_eq_true rfl⟩ rfl (k_117 (I := I) (A := A) h hl h61 ?_)
  show mq 149 5 [some (.ref 67), some (.int (nI l)), some (.int o), some (.int y), none, none, none] [.int (nI (cS (ow D l) 16))] (hS n u I A J B mk sn L xs X) _
  refine x_top (y := nI cn) (congrArg nI (SG_n hG)) ?_
  refine x_const (pc := 5) (pc' := 6) (.int (nI 1)) rfl rfl rfl rfl ?_
  refine x_isubV (pc := 6) (v := nI cn - 1) rfl (rfl) ?_
  refine x_is2 (pc := 7) (ml' := [some (.ref 67), some (.int (nI l)), some (.int o), some (.int y), some (.int (nI cn - 1)), none, none]) rfl rfl ?_
  exact l_149 hl hG hW cn none none h (Nat.le_refl _) rfl h61 kk
end S67
