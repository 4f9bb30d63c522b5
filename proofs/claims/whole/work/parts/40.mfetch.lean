/-! Fetch: the model, whole. -/
def nxO (D : Nat → Nat) (f bc : Nat → Nat) (n : Nat) : Int32 := if n = 0 then nI 0 else nxB D (f (n - 1)) (bc (f (n - 1)))
def stO (D : Nat → Nat) (f : Nat → Nat) (l n : Nat) : Int32 := nI (if 1 < l ∨ n = 0 then 0 else bB D (f 0))
section S40
variable {n u : Nat} {I : Nat → Int32} {A : Nat → Nat → Int32} {J : Int64} {B : Nat → Int64} {mk sn L : Nat} {xs : Nat → Int32} {X : Nat → mC} {D : Nat → Nat} 
set_option maxRecDepth 100000 in
set_option maxHeartbeats 4000000 in
theorem k_116u (h : DK (A 50) D) {l n' : Nat} {f bc : Nat → Nat} (hl : l < 4) (hG : SG D l f n') (hW : ∀ k, k < n' → WS D (f k) (bc (f k))) (h61 : I 61 = nI 0) {Q : mO × mHp → Prop} (kk : ∀ I' A', Fr [65, 66, 67, 71] I I' → Fr [52] A A' → Q (.inl (some (.int (nxO D f bc n'))), hS n u I' A' J B mk sn L xs X)) : mq 116 0 [some (.ref 67), some (.int (nI l)), none, none, none] [] (hS n u I A J B mk sn L xs X) Q := by
  rcases Nat.eq_zero_or_pos n' with hn | hn
  · have e : nxO D f bc n' = nI 0 := if_pos hn
    rw [e] at kk
    exact k_116z h hl hG h61 hn (kk I A (Fr_refl _ _) (Fr_refl _ _))
  · have e : nxO D f bc n' = nxB D (f (n' - 1)) (bc (f (n' - 1))) := if_neg (by omega)
    rw [e] at kk
    exact k_116 h hl hG h61 hn (hW _ (by omega)) kk
set_option maxRecDepth 100000 in
set_option maxHeartbeats 4000000 in
theorem l_137b {l n' k s c nn : Nat} {o : Int32} (hs : s < 16) (hW : WS D s c) (hnn : nn ≤ 8) {Q : mO × mHp → Prop} : ∀ (z j : Nat) (t : List R5) (x : Int32) {I : Nat → Int32} {A : Nat → Nat → Int32}, (DK (A 50) D) → (j + z = c) → (I 71 = nI (sb D s j)) → (t.length ≤ nn) → (FM I A t) → (I 70 = x) → (∀ I' A', Fr [65, 66, 67, 69, 70, 71] I I' → Fr [52, 57] A A' → FM I' A' (fB D s o nn z j t x).1 → I' 70 = (fB D s o nn z j t x).2 → mq 137 232 [some (.ref 67), some (.int (nI l)), some (.int o), some (.int (nI nn)), some (.int (nI n')), some (.int (nI k)), some (.int (nI 0)), some (.int (nI s))] [] (hS n u I' A' J B mk sn L xs X) Q) → mq 137 186 [some (.ref 67), some (.int (nI l)), some (.int o), some (.int (nI nn)), some (.int (nI n')), some (.int (nI k)), some (.int (nI 0)), some (.int (nI s))] [] (hS n u I A J B mk sn L xs X) Q := by
  intro z
  induction z with
  | zero =>
    intro j t x I A h hz h71 hln hF h70 kk
    have q9 := WS_128 hW
    have hj : j = c := by omega
    have hjc : sb D s j = 128 * s + mB D s := by rw [hj]; exact WS_end hW
    refine x_al1 (pc := 186) rfl rfl ?_
    refine g_67_19 (pc := 187) (v := nI (sb D s j)) rfl rfl h71 ?_
    refine x_al1 (pc := 190) rfl rfl ?_
    refine x_il2 (pc := 191) rfl rfl ?_
    refine x_k (pc := 193) rfl rfl rfl ⟨Nat.le_of_ble_eq_true rfl, Nat.le_of_ble_eq_true rfl, Nat.le_of_ble_eq_true rfl⟩ rfl (k_122 (I := I) (A := A) h hs ?_)
    show mq 137 196 [some (.ref 67), some (.int (nI l)), some (.int o), some (.int (nI nn)), some (.int (nI n')), some (.int (nI k)), some (.int (nI 0)), some (.int (nI s))] [.int (nI (128 * s + mB D s)), .int (nI (sb D s j))] (hS n u I A J B mk sn L xs X) _
    refine x_cmpN_ge (pc := 196) (t := 232) rfl rfl (by omega) (by omega) (fun c196 => ?_) (fun c196 => ?_)
    · exact kk I A (Fr_refl _ _) (Fr_refl _ _) hF h70
    · omega
  | succ z ih =>
    intro j t x I A h hz h71 hln hF h70 kk
    have hj : j < c := by omega
    have q9 := WS_128 hW
    have qin := WS_in hW hj
    refine x_al1 (pc := 186) rfl rfl ?_
    refine g_67_19 (pc := 187) (v := nI (sb D s j)) rfl rfl h71 ?_
    refine x_al1 (pc := 190) rfl rfl ?_
    refine x_il2 (pc := 191) rfl rfl ?_
    refine x_k (pc := 193) rfl rfl rfl ⟨Nat.le_of_ble_eq_true rfl, Nat.le_of_ble_eq_true rfl, Nat.le_of_ble_eq_true rfl⟩ rfl (k_122 (I := I) (A := A) h hs ?_)
    show mq 137 196 [some (.ref 67), some (.int (nI l)), some (.int o), some (.int (nI nn)), some (.int (nI n')), some (.int (nI k)), some (.int (nI 0)), some (.int (nI s))] [.int (nI (128 * s + mB D s)), .int (nI (sb D s j))] (hS n u I A J B mk sn L xs X) _
    refine x_cmpN_ge (pc := 196) (t := 232) rfl rfl (by omega) (by omega) (fun c196 => ?_) (fun c196 => ?_)
    · omega
    · refine x_al1 (pc := 199) rfl rfl ?_
      refine g_67_17 (pc := 200) (v := nI t.length) rfl rfl hF.1 ?_
      refine x_il1 (pc := 203) rfl rfl ?_
      refine x_cmpN_ge (pc := 204) (t := 232) rfl rfl (by omega) (by omega) (fun c204 => ?_) (fun c204 => ?_)
      · have ev : fB D s o nn (z + 1) j t x = (t, x) := by
          unfold fB
          rw [if_pos c204]
        rw [ev] at kk
        exact kk I A (Fr_refl _ _) (Fr_refl _ _) hF h70
      · refine x_al1 (pc := 207) rfl rfl ?_
        refine x_il2 (pc := 208) rfl rfl ?_
        refine x_k (pc := 210) rfl rfl rfl ⟨Nat.le_of_ble_eq_true rfl, Nat.le_of_ble_eq_true rfl, Nat.le_of_ble_eq_true rfl⟩ rfl (k_124 (I := I) (A := A) (k := s) (q := sb D s j) h hs h71 (WS_b hW hj).2.1 (WS_b hW hj).2.2.1 (by rw [WS_rq hW hj]; omega) (fun I1 A1 f1 g1 e1 hg => ?_))
        show mq 137 213 [some (.ref 67), some (.int (nI l)), some (.int o), some (.int (nI nn)), some (.int (nI n')), some (.int (nI k)), some (.int (nI 0)), some (.int (nI s))] [] (hS n u I1 A1 J B mk sn L xs X) _
        refine x_al1 (pc := 213) rfl rfl ?_
        refine x_step (pc := 214) (pc' := 215) (st' := [.ref 67, .ref 67]) rfl rfl rfl rfl ?_
        refine g_67_18 (pc := 215) (v := x) rfl rfl ((f1 70 (by decide)).trans h70) ?_
        refine x_const (pc := 218) (pc' := 219) (.int (nI 1)) rfl rfl rfl rfl ?_
        refine x_iadd (pc := 219) rfl rfl ?_
        refine p_67_18 (pc := 220) rfl rfl ?_
        refine x_al1 (pc := 223) rfl rfl ?_
        refine x_il1 (pc := 224) rfl rfl ?_
        refine x_il1 (pc := 225) rfl rfl ?_
        refine x_k (pc := 226) rfl rfl rfl ⟨Nat.le_of_ble_eq_true rfl, Nat.le_of_ble_eq_true rfl, Nat.le_of_ble_eq_true rfl⟩ rfl (k_140 (I := va_up I1 70 (x + (nI 1))) (A := A1) (b := bB D s) (q := sb D s j) (l := t) (WS_b hW hj).2.1 hnn ⟨hg.1, hg.2.1, hg.2.2.1, hg.2.2.2⟩ hln ⟨(f1 69 (by decide)).trans hF.1, fun i hi => by rw [g1 57 (by decide)]; exact hF.2 i hi⟩ (fun I2 A2 f2 g2 hF2 => ?_))
        show mq 137 229 [some (.ref 67), some (.int (nI l)), some (.int o), some (.int (nI nn)), some (.int (nI n')), some (.int (nI k)), some (.int (nI 0)), some (.int (nI s))] [] (hS n u I2 A2 J B mk sn L xs X) _
        refine x_step (pc := 229) (pc' := 186) rfl rfl rfl rfl ?_
        have ev : fB D s o nn (z + 1) j t x = fB D s o nn z (j + 1) (fR D (bB D s) (sb D s j) o nn (bN D (sb D s j)) 0 t) (x + 1) := by
          conv => lhs; unfold fB
          rw [if_neg c204]
        rw [ev] at kk
        exact ih (j + 1) _ (x + 1) (I := I2) (A := A2) (by rw [g2 50 (by decide), g1 50 (by decide)]; exact h) (by omega) ((f2 71 (by decide)).trans (e1.trans (congrArg nI (WS_rq hW hj)))) (fR_len _ _ _ _ _ _ _ _ hln) hF2 (f2 70 (by decide)) (fun I3 A3 f3 g3 hF3 e3 => kk I3 A3 (Fr_cons (Fr_cons (Fr_u (Fr_cons (Fr_refl _ _) f1 (by decide)) (by decide)) f2 (by decide)) f3 (by decide)) (Fr_cons (Fr_cons (Fr_cons (Fr_refl _ _) g1 (by decide)) g2 (by decide)) g3 (by decide)) hF3 e3)
set_option maxRecDepth 100000 in
set_option maxHeartbeats 4000000 in
theorem l_137 {l n' nn : Nat} {f bc : Nat → Nat} {o : Int32} (hl : l < 4) (hG : SG D l f n') (hW : ∀ k, k < n' → WS D (f k) (bc (f k))) (hnn : nn ≤ 8) {Q : mO × mHp → Prop} : ∀ (z k : Nat) (t : List R5) (x : Int32) (w7 : Option Value) {I : Nat → Int32} {A : Nat → Nat → Int32}, (DK (A 50) D) → (k + z = n') → (I 61 = nI 0) → (t.length ≤ nn) → (FM I A t) → (I 70 = x) → (∀ I' A', Fr [65, 66, 67, 69, 70, 71] I I' → Fr [52, 57] A A' → FM I' A' (fG D f bc o nn z k 0 t x).1 → I' 70 = (fG D f bc o nn z k 0 t x).2 → Q (.inl (some (.int (nI (fG D f bc o nn z k 0 t x).1.length))), hS n u I' A' J B mk sn L xs X)) → mq 137 129 [some (.ref 67), some (.int (nI l)), some (.int o), some (.int (nI nn)), some (.int (nI n')), some (.int (nI k)), some (.int (nI 0)), w7] [] (hS n u I A J B mk sn L xs X) Q := by
  intro z
  induction z with
  | zero =>
    intro k t x w7 I A h hz h61 hln hF h70 kk
    have q16 := SG_le hG
    refine x_il2 (pc := 129) rfl rfl ?_
    refine x_ifN_lt (pc := 131) (t := 238) rfl rfl (by omega) ?_
    refine x_il2 (pc := 134) rfl rfl ?_
    refine x_il2 (pc := 136) rfl rfl ?_
    refine x_cmpN_ge (pc := 138) (t := 238) rfl rfl (by omega) (by omega) (fun c138 => ?_) (fun c138 => ?_)
    · refine x_al1 (pc := 238) rfl rfl ?_
      refine g_67_17 (pc := 239) (v := nI t.length) rfl rfl hF.1 ?_
      refine x_ret (pc := 242) rfl rfl ?_
      exact kk I A (Fr_refl _ _) (Fr_refl _ _) hF h70
    · omega
  | succ z ih =>
    intro k t x w7 I A h hz h61 hln hF h70 kk
    have q16 := SG_le hG
    refine x_il2 (pc := 129) rfl rfl ?_
    refine x_ifN_lt (pc := 131) (t := 238) rfl rfl (by omega) ?_
    refine x_il2 (pc := 134) rfl rfl ?_
    refine x_il2 (pc := 136) rfl rfl ?_
    refine x_cmpN_ge (pc := 138) (t := 238) rfl rfl (by omega) (by omega) (fun c138 => ?_) (fun c138 => ?_)
    · omega
    · refine x_al1 (pc := 141) rfl rfl ?_
      refine g_67_17 (pc := 142) (v := nI t.length) rfl rfl hF.1 ?_
      refine x_il1 (pc := 145) rfl rfl ?_
      refine x_cmpN_ge (pc := 146) (t := 238) rfl rfl (by omega) (by omega) (fun c146 => ?_) (fun c146 => ?_)
      · have ev : fG D f bc o nn (z + 1) k 0 t x = (t, x) := by
          unfold fG
          rw [if_pos c146]
        rw [ev] at kk
        refine x_al1 (pc := 238) rfl rfl ?_
        refine g_67_17 (pc := 239) (v := nI t.length) rfl rfl hF.1 ?_
        refine x_ret (pc := 242) rfl rfl ?_
        exact kk I A (Fr_refl _ _) (Fr_refl _ _) hF h70
      · refine x_al1 (pc := 149) rfl rfl ?_
        refine x_il1 (pc := 150) rfl rfl ?_
        refine x_il2 (pc := 151) rfl rfl ?_
        refine x_k (pc := 153) rfl rfl rfl ⟨Nat.le_of_ble_eq_true rfl, Nat.le_of_ble_eq_true rfl, Nat.le_of_ble_eq_true rfl⟩ rfl (k_119 (I := I) (A := A) (m := k) h hG (by omega) hl h61 ?_)
        show mq 137 156 [some (.ref 67), some (.int (nI l)), some (.int o), some (.int (nI nn)), some (.int (nI n')), some (.int (nI k)), some (.int (nI 0)), w7] [.int (nI (f k))] (hS n u I A J B mk sn L xs X) _
        refine x_is2 (pc := 156) (ml' := [some (.ref 67), some (.int (nI l)), some (.int o), some (.int (nI nn)), some (.int (nI n')), some (.int (nI k)), some (.int (nI 0)), some (.int (nI (f k)))]) rfl rfl ?_
        refine x_al1 (pc := 158) rfl rfl ?_
        refine x_il2 (pc := 159) rfl rfl ?_
        refine x_ifN_eq (pc := 161) (t := 174) rfl rfl (by decide) (fun _ => ?_) (fun c => absurd c (by decide))
        refine x_al1 (pc := 174) rfl rfl ?_
        refine x_il2 (pc := 175) rfl rfl ?_
        refine x_k (pc := 177) rfl rfl rfl ⟨Nat.le_of_ble_eq_true rfl, Nat.le_of_ble_eq_true rfl, Nat.le_of_ble_eq_true rfl⟩ rfl (k_121 (I := I) (A := A) ?_)
        show mq 137 180 [some (.ref 67), some (.int (nI l)), some (.int o), some (.int (nI nn)), some (.int (nI n')), some (.int (nI k)), some (.int (nI 0)), some (.int (nI (f k)))] [.int (nI (128 * f k + 8)), .ref 67] (hS n u I A J B mk sn L xs X) _
        refine p_67_19 (pc := 180) rfl rfl ?_
        refine x_const (pc := 183) (pc' := 184) (.int (nI 0)) rfl rfl rfl rfl ?_
        refine x_is2 (pc := 184) (ml' := [some (.ref 67), some (.int (nI l)), some (.int o), some (.int (nI nn)), some (.int (nI n')), some (.int (nI k)), some (.int (nI 0)), some (.int (nI (f k)))]) rfl rfl ?_
        have hk : k < n' := by omega
        refine l_137b (I := va_up I 71 (nI (128 * f k + 8))) (A := A) (s := f k) (c := bc (f k)) (hG.1 k hk).1 (hW k hk) hnn (bc (f k) - 0) (0) _ _ h (by omega) rfl hln ⟨hF.1, hF.2⟩ h70 (fun I9 A9 f9 g9 hF9 e9 => ?_)
        refine x_iincN (pc := 232) (c := 1) (ml' := [some (.ref 67), some (.int (nI l)), some (.int o), some (.int (nI nn)), some (.int (nI n')), some (.int (nI (k + 1))), some (.int (nI 0)), some (.int (nI (f k)))]) rfl rfl rfl rfl ?_
        refine x_step (pc := 235) (pc' := 129) rfl rfl rfl rfl ?_
        have ev : fG D f bc o nn (z + 1) k 0 t x = fG D f bc o nn z (k + 1) 0 (fB D (f k) o nn (bc (f k) - 0) 0 t x).1 (fB D (f k) o nn (bc (f k) - 0) 0 t x).2 := by
          conv => lhs; unfold fG
          rw [if_neg c146]
        rw [ev] at kk
        exact ih (k + 1) _ _ _ (I := I9) (A := A9) (by rw [g9 50 (by decide)]; exact h) (by omega) ((f9 61 (by decide)).trans h61) (fB_len _ _ _ _ _ _ _ _ hln) hF9 e9 (fun I2 A2 f2 g2 hF2 e2 => kk I2 A2 (Fr_cons (Fr_cons (Fr_u (Fr_refl _ _) (by decide)) f9 (by decide)) f2 (by decide)) (Fr_cons (Fr_cons (Fr_refl _ _) g9 (by decide)) g2 (by decide)) hF2 e2)
set_option maxRecDepth 100000 in
set_option maxHeartbeats 4000000 in
theorem l_137d (h : DK (A 50) D) {l n' nn : Nat} {f bc : Nat → Nat} {o : Int32} (hl : l < 4) (hG : SG D l f n') (hW : ∀ k, k < n' → WS D (f k) (bc (f k))) (h61 : I 61 = nI 0) {Q : mO × mHp → Prop} : ∀ (k : Nat), k < n' → mq 137 126 [some (.ref 67), some (.int (nI l)), some (.int o), some (.int (nI nn)), some (.int (nI n')), some (.int (nI (dF D f o k))), none, none] [] (hS n u I A J B mk sn L xs X) Q → mq 137 100 [some (.ref 67), some (.int (nI l)), some (.int o), some (.int (nI nn)), some (.int (nI n')), some (.int (nI k)), none, none] [] (hS n u I A J B mk sn L xs X) Q := by
  intro k
  have q16 := SG_le hG
  induction k with
  | zero =>
    intro hk kk
    refine x_il2 (pc := 100) rfl rfl ?_
    refine x_ifN_le (pc := 102) (t := 126) rfl rfl (by decide) (fun c102 => ?_) (fun c102 => ?_)
    · exact kk
    · omega
  | succ k ih =>
    intro hk kk
    refine x_il2 (pc := 100) rfl rfl ?_
    refine x_ifN_le (pc := 102) (t := 126) rfl rfl (by omega) (fun c102 => ?_) (fun c102 => ?_)
    · omega
    · refine x_al1 (pc := 105) rfl rfl ?_
      refine x_al1 (pc := 106) rfl rfl ?_
      refine x_il1 (pc := 107) rfl rfl ?_
      refine x_il2 (pc := 108) rfl rfl ?_
      refine x_k (pc := 110) rfl rfl rfl ⟨Nat.le_of_ble_eq_true rfl, Nat.le_of_ble_eq_true rfl, Nat.le_of_ble_eq_true rfl⟩ rfl (k_119 (I := I) (A := A) (m := k + 1) h hG hk hl h61 ?_)
      show mq 137 113 [some (.ref 67), some (.int (nI l)), some (.int o), some (.int (nI nn)), some (.int (nI n')), some (.int (nI (k + 1))), none, none] [.int (nI (f (k + 1))), .ref 67] (hS n u I A J B mk sn L xs X) _
      refine x_k (pc := 113) rfl rfl rfl ⟨Nat.le_of_ble_eq_true rfl, Nat.le_of_ble_eq_true rfl, Nat.le_of_ble_eq_true rfl⟩ rfl (mq_k (c_120 h (hG.1 _ hk).1) ?_)
      show mq 137 116 [some (.ref 67), some (.int (nI l)), some (.int o), some (.int (nI nn)), some (.int (nI n')), some (.int (nI (k + 1))), none, none] [.int (nI (bB D (f (k + 1))))] (hS n u I A J B mk sn L xs X) _
      refine x_il1 (pc := 116) rfl rfl ?_
      refine x_cmp_le (pc := 117) (t := 126) rfl rfl rfl (fun c117 => ?_) (fun c117 => ?_)
      · have ev : dF D f o (k + 1) = k + 1 := if_pos c117
        rw [ev] at kk
        exact kk
      · refine x_iincV (pc := 120) (v := nI k) (ml' := [some (.ref 67), some (.int (nI l)), some (.int o), some (.int (nI nn)), some (.int (nI n')), some (.int (nI k)), none, none]) rfl rfl (pk_m1 k) rfl ?_
        refine x_step (pc := 123) (pc' := 100) rfl rfl rfl rfl ?_
        have ev : dF D f o (k + 1) = dF D f o k := if_neg (Int32.not_le.mpr (Int32.not_le.mp c117))
        rw [ev] at kk
        exact ih (by omega) kk
set_option maxRecDepth 100000 in
set_option maxHeartbeats 4000000 in
theorem k_137 (h : DK (A 50) D) {l n' nn : Nat} {f bc : Nat → Nat} {o : Int32} (hl : l < 4) (hG : SG D l f n') (hW : ∀ k, k < n' → WS D (f k) (bc (f k))) (hn1 : 1 ≤ nn) (hnn : nn ≤ 8) (h61 : I 61 = nI 0) (h1 : ¬ o < stO D f l n') (h2 : o ≤ nxO D f bc n') {Q : mO × mHp → Prop} (kk : ∀ I' A', Fr [60, 65, 66, 67, 69, 70, 71] I I' → Fr [52, 57] A A' → I' 60 = nI 0 → FM I' A' (fG D f bc o nn (n' - dF D f o (n' - 1)) (dF D f o (n' - 1)) (eB D (f (dF D f o (n' - 1))) o (bc (f (dF D f o (n' - 1)))) 0 8 0) [] (nI 0)).1 → I' 70 = (fG D f bc o nn (n' - dF D f o (n' - 1)) (dF D f o (n' - 1)) (eB D (f (dF D f o (n' - 1))) o (bc (f (dF D f o (n' - 1)))) 0 8 0) [] (nI 0)).2 → Q (.inl (some (.int (nI (fG D f bc o nn (n' - dF D f o (n' - 1)) (dF D f o (n' - 1)) (eB D (f (dF D f o (n' - 1))) o (bc (f (dF D f o (n' - 1)))) 0 8 0) [] (nI 0)).1.length))), hS n u I' A' J B mk sn L xs X)) : mq 137 0 [some (.ref 67), some (.int (nI l)), some (.int o), some (.int (nI nn)), none, none, none, none] [] (hS n u I A J B mk sn L xs X) Q := by
  have q16 := SG_le hG
  refine x_al1 (pc := 0) rfl rfl ?_
  refine x_al1 (pc := 1) rfl rfl ?_
  refine g_67_2 (pc := 2) (v := nI 0) rfl rfl h61 ?_
  refine x_ifN_eq (pc := 5) (t := 12) rfl rfl (by decide) (fun _ => ?_) (fun c => absurd c (by decide))
  refine x_il1 (pc := 12) rfl rfl ?_
  refine x_ifN_lt (pc := 13) (t := 32) rfl rfl (by omega) ?_
  refine x_il1 (pc := 16) rfl rfl ?_
  refine x_const (pc := 17) (pc' := 18) (.int (nI 3)) rfl rfl rfl rfl ?_
  refine x_cmpN_gt (pc := 18) (t := 32) rfl rfl (by omega) (by omega) (fun c18 => ?_) (fun c18 => ?_)
  · omega
  · refine x_il1 (pc := 21) rfl rfl ?_
    refine x_const (pc := 22) (pc' := 23) (.int (nI 1)) rfl rfl rfl rfl ?_
    refine x_cmpN_lt (pc := 23) (t := 32) rfl rfl (by omega) (by omega) (fun c23 => ?_) (fun c23 => ?_)
    · omega
    · refine x_il1 (pc := 26) rfl rfl ?_
      refine x_const (pc := 27) (pc' := 29) (.int (nI 8)) rfl rfl rfl rfl ?_
      refine x_cmpN_le (pc := 29) (t := 36) rfl rfl (by omega) (by omega) (fun c29 => ?_) (fun c29 => ?_)
      · refine x_const (pc := 36) (pc' := 37) (.int (nI 0)) rfl rfl rfl rfl ?_
        refine x_k (pc := 37) rfl rfl rfl ⟨Nat.le_of_ble_eq_true rfl, Nat.le_of_ble_eq_true rfl, Nat.le_of_ble_eq_true rfl⟩ rfl (k_114 (I := I) (A := A) (w := 0) (by decide) ?_)
        show mq 137 40 [some (.ref 67), some (.int (nI l)), some (.int o), some (.int (nI nn)), none, none, none, none] [.int (nI 0)] (hS n u (va_up I 60 (nI 0)) A J B mk sn L xs X) _
        refine x_ifN_eq (pc := 40) (t := 45) rfl rfl (by decide) (fun _ => ?_) (fun c => absurd c (by decide))
        refine x_al1 (pc := 45) rfl rfl ?_
        refine x_il1 (pc := 46) rfl rfl ?_
        refine x_al1 (pc := 47) rfl rfl ?_
        refine x_il1 (pc := 48) rfl rfl ?_
        refine x_k (pc := 49) rfl rfl rfl ⟨Nat.le_of_ble_eq_true rfl, Nat.le_of_ble_eq_true rfl, Nat.le_of_ble_eq_true rfl⟩ rfl (k_138 (I := va_up I 60 (nI 0)) (A := A) h hl hG h61 ?_)
        show mq 137 52 [some (.ref 67), some (.int (nI l)), some (.int o), some (.int (nI nn)), none, none, none, none] [.int (stO D f l n'), .int o, .ref 67] (hS n u (va_up I 60 (nI 0)) A J B mk sn L xs X) _
        refine x_cmp_lt (pc := 52) (t := 64) rfl rfl rfl (fun c52 => ?_) (fun c52 => ?_)
        · exact absurd c52 h1
        · refine x_il1 (pc := 55) rfl rfl ?_
          refine x_al1 (pc := 56) rfl rfl ?_
          refine x_il1 (pc := 57) rfl rfl ?_
          refine x_k (pc := 58) rfl rfl rfl ⟨Nat.le_of_ble_eq_true rfl, Nat.le_of_ble_eq_true rfl, Nat.le_of_ble_eq_true rfl⟩ rfl (k_116u (I := va_up I 60 (nI 0)) (A := A) (bc := bc) h hl hG hW h61 (fun I1 A1 f1 g1 => ?_))
          show mq 137 61 [some (.ref 67), some (.int (nI l)), some (.int o), some (.int (nI nn)), none, none, none, none] [.int (nxO D f bc n'), .int o, .ref 67] (hS n u I1 A1 J B mk sn L xs X) _
          refine x_cmp_le (pc := 61) (t := 68) rfl rfl rfl (fun c61 => ?_) (fun c61 => ?_)
          · refine x_const (pc := 68) (pc' := 69) (.int (nI 0)) rfl rfl rfl rfl ?_
            refine x_k (pc := 69) rfl rfl rfl ⟨Nat.le_of_ble_eq_true rfl, Nat.le_of_ble_eq_true rfl, Nat.le_of_ble_eq_true rfl⟩ rfl (k_114 (I := I1) (A := A1) (w := 0) (by decide) ?_)
            show mq 137 72 [some (.ref 67), some (.int (nI l)), some (.int o), some (.int (nI nn)), none, none, none, none] [.int (nI 0)] (hS n u (va_up I1 60 (nI 0)) A1 J B mk sn L xs X) _
            refine x_ifN_eq (pc := 72) (t := 77) rfl rfl (by decide) (fun _ => ?_) (fun c => absurd c (by decide))
            refine x_al1 (pc := 77) rfl rfl ?_
            refine x_const (pc := 78) (pc' := 79) (.int (nI 0)) rfl rfl rfl rfl ?_
            refine p_67_17 (pc := 79) rfl rfl ?_
            refine x_al1 (pc := 82) rfl rfl ?_
            refine x_const (pc := 83) (pc' := 84) (.int (nI 0)) rfl rfl rfl rfl ?_
            refine p_67_18 (pc := 84) rfl rfl ?_
            refine x_al1 (pc := 87) rfl rfl ?_
            refine x_il1 (pc := 88) rfl rfl ?_
            refine x_k (pc := 89) rfl rfl rfl ⟨Nat.le_of_ble_eq_true rfl, Nat.le_of_ble_eq_true rfl, Nat.le_of_ble_eq_true rfl⟩ rfl (k_117 (I := va_up (va_up (va_up I1 60 (nI 0)) 69 (nI 0)) 70 (nI 0)) (A := A1) (by rw [g1 50 (by decide)]; exact h) hl ((f1 61 (by decide)).trans h61) ?_)
            show mq 137 92 [some (.ref 67), some (.int (nI l)), some (.int o), some (.int (nI nn)), none, none, none, none] [.int (nI (cS (ow D l) 16))] (hS n u (va_up (va_up (va_up I1 60 (nI 0)) 69 (nI 0)) 70 (nI 0)) A1 J B mk sn L xs X) _
            refine x_top (y := nI n') (congrArg nI (SG_n hG)) ?_
            refine x_is2 (pc := 92) (ml' := [some (.ref 67), some (.int (nI l)), some (.int o), some (.int (nI nn)), some (.int (nI n')), none, none, none]) rfl rfl ?_
            rcases Nat.eq_zero_or_pos n' with hn0 | hn0
            · have ek : n' - dF D f o (n' - 1) = 0 := by omega
              rw [ek] at kk
              refine x_il2 (pc := 94) rfl rfl ?_
              refine x_const (pc := 96) (pc' := 97) (.int (nI 1)) rfl rfl rfl rfl ?_
              refine x_isubV (pc := 97) (v := (-1)) rfl (by rw [hn0]; decide) ?_
              refine x_is2 (pc := 98) (ml' := [some (.ref 67), some (.int (nI l)), some (.int o), some (.int (nI nn)), some (.int (nI n')), some (.int (-1)), none, none]) rfl rfl ?_
              refine x_il2 (pc := 100) rfl rfl ?_
              refine x_if_le (pc := 102) (t := 126) rfl rfl rfl (fun c102 => ?_) (fun c102 => ?_)
              · refine x_const (pc := 126) (pc' := 127) (.int (nI 1)) rfl rfl rfl rfl ?_
                refine x_is2 (pc := 127) (ml' := [some (.ref 67), some (.int (nI l)), some (.int o), some (.int (nI nn)), some (.int (nI n')), some (.int (-1)), some (.int (nI 1)), none]) rfl rfl ?_
                refine x_il2 (pc := 129) rfl rfl ?_
                refine x_if_lt (pc := 131) (t := 238) rfl rfl rfl (fun c131 => ?_) (fun c131 => ?_)
                · refine x_al1 (pc := 238) rfl rfl ?_
                  refine g_67_17 (pc := 239) (v := nI 0) rfl rfl rfl ?_
                  refine x_ret (pc := 242) rfl rfl ?_
                  exact kk _ _ (Fr_u (Fr_u (Fr_u (Fr_cons (Fr_u (Fr_refl _ _) (by decide)) f1 (by decide)) (by decide)) (by decide)) (by decide)) (Fr_cons (Fr_refl _ _) g1 (by decide)) rfl ⟨rfl, fun i hi => absurd hi (Nat.not_lt_zero i)⟩ rfl
                · exact absurd (by decide) c131
              · exact absurd (by decide) c102
            · refine x_il2 (pc := 94) rfl rfl ?_
              refine x_const (pc := 96) (pc' := 97) (.int (nI 1)) rfl rfl rfl rfl ?_
              refine x_isubN (pc := 97) rfl ((by omega)) ?_
              refine x_is2 (pc := 98) (ml' := [some (.ref 67), some (.int (nI l)), some (.int o), some (.int (nI nn)), some (.int (nI n')), some (.int (nI (n' - 1))), none, none]) rfl rfl ?_
              refine l_137d (I := va_up (va_up (va_up I1 60 (nI 0)) 69 (nI 0)) 70 (nI 0)) (A := A1) (by rw [g1 50 (by decide)]; exact h) (o := o) hl hG hW ((f1 61 (by decide)).trans h61) (n' - 1) (by omega) ?_
              obtain ⟨k, hkd⟩ : ∃ k, k = dF D f o (n' - 1) := ⟨_, rfl⟩
              have hkl := dF_le D f o (n' - 1)
              rw [← hkd] at hkl ⊢
              rw [← hkd] at kk
              have hk : k < n' := by omega
              have hz : n' - k = (n' - k - 1) + 1 := by omega
              have ev : fG D f bc o nn (n' - k) k (eB D (f k) o (bc (f k)) 0 8 0) [] (nI 0) = fG D f bc o nn (n' - k - 1) (k + 1) 0 (fB D (f k) o nn (bc (f k) - eB D (f k) o (bc (f k)) 0 8 0) (eB D (f k) o (bc (f k)) 0 8 0) [] (nI 0)).1 (fB D (f k) o nn (bc (f k) - eB D (f k) o (bc (f k)) 0 8 0) (eB D (f k) o (bc (f k)) 0 8 0) [] (nI 0)).2 := by
                rw [show fG D f bc o nn (n' - k) k (eB D (f k) o (bc (f k)) 0 8 0) [] (nI 0) = fG D f bc o nn ((n' - k - 1) + 1) k (eB D (f k) o (bc (f k)) 0 8 0) [] (nI 0) from congrArg (fun z => fG D f bc o nn z k (eB D (f k) o (bc (f k)) 0 8 0) [] (nI 0)) hz]
                conv => lhs; unfold fG
                rw [if_neg (by simp; omega)]
              rw [ev] at kk
              have hjj := eB_le D (f k) o (bc (f k)) 0 8 0 (Nat.zero_le _)
              refine x_const (pc := 126) (pc' := 127) (.int (nI 1)) rfl rfl rfl rfl ?_
              refine x_is2 (pc := 127) (ml' := [some (.ref 67), some (.int (nI l)), some (.int o), some (.int (nI nn)), some (.int (nI n')), some (.int (nI k)), some (.int (nI 1)), none]) rfl rfl ?_
              refine x_il2 (pc := 129) rfl rfl ?_
              refine x_ifN_lt (pc := 131) (t := 238) rfl rfl (by omega) ?_
              refine x_il2 (pc := 134) rfl rfl ?_
              refine x_il2 (pc := 136) rfl rfl ?_
              refine x_cmpN_ge (pc := 138) (t := 238) rfl rfl (by omega) (by omega) (fun c138 => ?_) (fun c138 => ?_)
              · omega
              · refine x_al1 (pc := 141) rfl rfl ?_
                refine g_67_17 (pc := 142) (v := nI 0) rfl rfl rfl ?_
                refine x_il1 (pc := 145) rfl rfl ?_
                refine x_cmpN_ge (pc := 146) (t := 238) rfl rfl (by decide) (by omega) (fun c146 => ?_) (fun c146 => ?_)
                · omega
                · refine x_al1 (pc := 149) rfl rfl ?_
                  refine x_il1 (pc := 150) rfl rfl ?_
                  refine x_il2 (pc := 151) rfl rfl ?_
                  refine x_k (pc := 153) rfl rfl rfl ⟨Nat.le_of_ble_eq_true rfl, Nat.le_of_ble_eq_true rfl, Nat.le_of_ble_eq_true rfl⟩ rfl (k_119 (I := va_up (va_up (va_up I1 60 (nI 0)) 69 (nI 0)) 70 (nI 0)) (A := A1) (m := k) (by rw [g1 50 (by decide)]; exact h) hG hk hl ((f1 61 (by decide)).trans h61) ?_)
                  show mq 137 156 [some (.ref 67), some (.int (nI l)), some (.int o), some (.int (nI nn)), some (.int (nI n')), some (.int (nI k)), some (.int (nI 1)), none] [.int (nI (f k))] (hS n u (va_up (va_up (va_up I1 60 (nI 0)) 69 (nI 0)) 70 (nI 0)) A1 J B mk sn L xs X) _
                  refine x_is2 (pc := 156) (ml' := [some (.ref 67), some (.int (nI l)), some (.int o), some (.int (nI nn)), some (.int (nI n')), some (.int (nI k)), some (.int (nI 1)), some (.int (nI (f k)))]) rfl rfl ?_
                  refine x_al1 (pc := 158) rfl rfl ?_
                  refine x_il2 (pc := 159) rfl rfl ?_
                  refine x_ifN_eq (pc := 161) (t := 174) rfl rfl (by decide) (fun c => absurd c (by decide)) (fun _ => ?_)
                  refine x_al1 (pc := 164) rfl rfl ?_
                  refine x_il2 (pc := 165) rfl rfl ?_
                  refine x_il1 (pc := 167) rfl rfl ?_
                  refine x_k (pc := 168) rfl rfl rfl ⟨Nat.le_of_ble_eq_true rfl, Nat.le_of_ble_eq_true rfl, Nat.le_of_ble_eq_true rfl⟩ rfl (k_139 (I := va_up (va_up (va_up I1 60 (nI 0)) 69 (nI 0)) 70 (nI 0)) (A := A1) (c := bc (f k)) (o := o) (by rw [g1 50 (by decide)]; exact h) (hG.1 k hk).1 (hW k hk) (fun I8 A8 f8 g8 => ?_))
                  show mq 137 171 [some (.ref 67), some (.int (nI l)), some (.int o), some (.int (nI nn)), some (.int (nI n')), some (.int (nI k)), some (.int (nI 1)), some (.int (nI (f k)))] [.int (nI (sb D (f k) (eB D (f k) o (bc (f k)) 0 8 0))), .ref 67] (hS n u I8 A8 J B mk sn L xs X) _
                  refine x_step (pc := 171) (pc' := 180) rfl rfl rfl rfl ?_
                  refine p_67_19 (pc := 180) rfl rfl ?_
                  refine x_const (pc := 183) (pc' := 184) (.int (nI 0)) rfl rfl rfl rfl ?_
                  refine x_is2 (pc := 184) (ml' := [some (.ref 67), some (.int (nI l)), some (.int o), some (.int (nI nn)), some (.int (nI n')), some (.int (nI k)), some (.int (nI 0)), some (.int (nI (f k)))]) rfl rfl ?_
                  refine l_137b (I := va_up I8 71 (nI (sb D (f k) (eB D (f k) o (bc (f k)) 0 8 0)))) (A := A8) (s := f k) (c := bc (f k)) (hG.1 k hk).1 (hW k hk) hnn (bc (f k) - eB D (f k) o (bc (f k)) 0 8 0) (eB D (f k) o (bc (f k)) 0 8 0) [] (nI 0) (by rw [g8 50 (by decide), g1 50 (by decide)]; exact h) (by omega) rfl (Nat.zero_le _) ⟨f8 69 (by decide), fun i hi => absurd hi (Nat.not_lt_zero i)⟩ (f8 70 (by decide)) (fun I9 A9 f9 g9 hF9 e9 => ?_)
                  refine x_iincN (pc := 232) (c := 1) (ml' := [some (.ref 67), some (.int (nI l)), some (.int o), some (.int (nI nn)), some (.int (nI n')), some (.int (nI (k + 1))), some (.int (nI 0)), some (.int (nI (f k)))]) rfl rfl rfl rfl ?_
                  refine x_step (pc := 235) (pc' := 129) rfl rfl rfl rfl ?_
                  exact l_137 hl hG hW hnn (n' - k - 1) (k + 1) _ _ _ (I := I9) (A := A9) (by rw [g9 50 (by decide), g8 50 (by decide), g1 50 (by decide)]; exact h) (by omega) ((f9 61 (by decide)).trans ((f8 61 (by decide)).trans ((f1 61 (by decide)).trans h61))) (fB_len _ _ _ _ _ _ _ _ (Nat.zero_le _)) hF9 e9 (fun I2 A2 f2 g2 hF2 e2 => kk I2 A2 (Fr_cons (Fr_cons (Fr_u (Fr_cons (Fr_u (Fr_u (Fr_u (Fr_cons (Fr_u (Fr_refl _ _) (by decide)) f1 (by decide)) (by decide)) (by decide)) (by decide)) f8 (by decide)) (by decide)) f9 (by decide)) f2 (by decide)) (Fr_cons (Fr_cons (Fr_cons (Fr_cons (Fr_refl _ _) g1 (by decide)) g8 (by decide)) g9 (by decide)) g2 (by decide)) ((f2 60 (by decide)).trans ((f9 60 (by decide)).trans (f8 60 (by decide)))) hF2 e2)
          · exact absurd h2 c61
      · omega
set_option maxRecDepth 100000 in
set_option maxHeartbeats 4000000 in
theorem k_137o (h : DK (A 50) D) {l n' nn : Nat} {f bc : Nat → Nat} {o : Int32} (hl : l < 4) (hG : SG D l f n') (hW : ∀ k, k < n' → WS D (f k) (bc (f k))) (hn1 : 1 ≤ nn) (hnn : nn ≤ 8) (h61 : I 61 = nI 0) (hx : o < stO D f l n' ∨ ¬ o ≤ nxO D f bc n') {Q : mO × mHp → Prop} (kk : ∀ I' A', Fr [60, 65, 66, 67, 71] I I' → Fr [52] A A' → I' 60 = nI 3 → Q (.inl (some (.int (nI 0))), hS n u I' A' J B mk sn L xs X)) : mq 137 0 [some (.ref 67), some (.int (nI l)), some (.int o), some (.int (nI nn)), none, none, none, none] [] (hS n u I A J B mk sn L xs X) Q := by
  have q16 := SG_le hG
  refine x_al1 (pc := 0) rfl rfl ?_
  refine x_al1 (pc := 1) rfl rfl ?_
  refine g_67_2 (pc := 2) (v := nI 0) rfl rfl h61 ?_
  refine x_ifN_eq (pc := 5) (t := 12) rfl rfl (by decide) (fun _ => ?_) (fun c => absurd c (by decide))
  refine x_il1 (pc := 12) rfl rfl ?_
  refine x_ifN_lt (pc := 13) (t := 32) rfl rfl (by omega) ?_
  refine x_il1 (pc := 16) rfl rfl ?_
  refine x_const (pc := 17) (pc' := 18) (.int (nI 3)) rfl rfl rfl rfl ?_
  refine x_cmpN_gt (pc := 18) (t := 32) rfl rfl (by omega) (by omega) (fun c18 => ?_) (fun c18 => ?_)
  · omega
  · refine x_il1 (pc := 21) rfl rfl ?_
    refine x_const (pc := 22) (pc' := 23) (.int (nI 1)) rfl rfl rfl rfl ?_
    refine x_cmpN_lt (pc := 23) (t := 32) rfl rfl (by omega) (by omega) (fun c23 => ?_) (fun c23 => ?_)
    · omega
    · refine x_il1 (pc := 26) rfl rfl ?_
      refine x_const (pc := 27) (pc' := 29) (.int (nI 8)) rfl rfl rfl rfl ?_
      refine x_cmpN_le (pc := 29) (t := 36) rfl rfl (by omega) (by omega) (fun c29 => ?_) (fun c29 => ?_)
      · refine x_const (pc := 36) (pc' := 37) (.int (nI 0)) rfl rfl rfl rfl ?_
        refine x_k (pc := 37) rfl rfl rfl ⟨Nat.le_of_ble_eq_true rfl, Nat.le_of_ble_eq_true rfl, Nat.le_of_ble_eq_true rfl⟩ rfl (k_114 (I := I) (A := A) (w := 0) (by decide) ?_)
        show mq 137 40 [some (.ref 67), some (.int (nI l)), some (.int o), some (.int (nI nn)), none, none, none, none] [.int (nI 0)] (hS n u (va_up I 60 (nI 0)) A J B mk sn L xs X) _
        refine x_ifN_eq (pc := 40) (t := 45) rfl rfl (by decide) (fun _ => ?_) (fun c => absurd c (by decide))
        refine x_al1 (pc := 45) rfl rfl ?_
        refine x_il1 (pc := 46) rfl rfl ?_
        refine x_al1 (pc := 47) rfl rfl ?_
        refine x_il1 (pc := 48) rfl rfl ?_
        refine x_k (pc := 49) rfl rfl rfl ⟨Nat.le_of_ble_eq_true rfl, Nat.le_of_ble_eq_true rfl, Nat.le_of_ble_eq_true rfl⟩ rfl (k_138 (I := va_up I 60 (nI 0)) (A := A) h hl hG h61 ?_)
        show mq 137 52 [some (.ref 67), some (.int (nI l)), some (.int o), some (.int (nI nn)), none, none, none, none] [.int (stO D f l n'), .int o, .ref 67] (hS n u (va_up I 60 (nI 0)) A J B mk sn L xs X) _
        refine x_cmp_lt (pc := 52) (t := 64) rfl rfl rfl (fun c52 => ?_) (fun c52 => ?_)
        · refine x_const (pc := 64) (pc' := 65) (.int (nI 3)) rfl rfl rfl rfl ?_
          refine x_step (pc := 65) (pc' := 69) rfl rfl rfl rfl ?_
          refine x_k (pc := 69) rfl rfl rfl ⟨Nat.le_of_ble_eq_true rfl, Nat.le_of_ble_eq_true rfl, Nat.le_of_ble_eq_true rfl⟩ rfl (k_114 (I := va_up I 60 (nI 0)) (A := A) (w := 3) (by decide) ?_)
          show mq 137 72 [some (.ref 67), some (.int (nI l)), some (.int o), some (.int (nI nn)), none, none, none, none] [.int (nI 1)] (hS n u (va_up (va_up I 60 (nI 0)) 60 (nI 3)) A J B mk sn L xs X) _
          refine x_ifN_eq (pc := 72) (t := 77) rfl rfl (by decide) (fun c => absurd c (by decide)) (fun _ => ?_)
          refine x_const (pc := 75) (pc' := 76) (.int (nI 0)) rfl rfl rfl rfl ?_
          refine x_ret (pc := 76) rfl rfl ?_
          exact kk _ _ (Fr_u (Fr_u (Fr_refl _ _) (by decide)) (by decide)) (Fr_refl _ _) rfl
        · refine x_il1 (pc := 55) rfl rfl ?_
          refine x_al1 (pc := 56) rfl rfl ?_
          refine x_il1 (pc := 57) rfl rfl ?_
          refine x_k (pc := 58) rfl rfl rfl ⟨Nat.le_of_ble_eq_true rfl, Nat.le_of_ble_eq_true rfl, Nat.le_of_ble_eq_true rfl⟩ rfl (k_116u (I := va_up I 60 (nI 0)) (A := A) (bc := bc) h hl hG hW h61 (fun I1 A1 f1 g1 => ?_))
          show mq 137 61 [some (.ref 67), some (.int (nI l)), some (.int o), some (.int (nI nn)), none, none, none, none] [.int (nxO D f bc n'), .int o, .ref 67] (hS n u I1 A1 J B mk sn L xs X) _
          refine x_cmp_le (pc := 61) (t := 68) rfl rfl rfl (fun c61 => ?_) (fun c61 => ?_)
          · exact absurd hx (fun q => q.elim c52 (fun q => q c61))
          · refine x_const (pc := 64) (pc' := 65) (.int (nI 3)) rfl rfl rfl rfl ?_
            refine x_step (pc := 65) (pc' := 69) rfl rfl rfl rfl ?_
            refine x_k (pc := 69) rfl rfl rfl ⟨Nat.le_of_ble_eq_true rfl, Nat.le_of_ble_eq_true rfl, Nat.le_of_ble_eq_true rfl⟩ rfl (k_114 (I := I1) (A := A1) (w := 3) (by decide) ?_)
            show mq 137 72 [some (.ref 67), some (.int (nI l)), some (.int o), some (.int (nI nn)), none, none, none, none] [.int (nI 1)] (hS n u (va_up I1 60 (nI 3)) A1 J B mk sn L xs X) _
            refine x_ifN_eq (pc := 72) (t := 77) rfl rfl (by decide) (fun c => absurd c (by decide)) (fun _ => ?_)
            refine x_const (pc := 75) (pc' := 76) (.int (nI 0)) rfl rfl rfl rfl ?_
            refine x_ret (pc := 76) rfl rfl ?_
            exact kk _ _ (Fr_u (Fr_cons (Fr_u (Fr_refl _ _) (by decide)) f1 (by decide)) (by decide)) (Fr_cons (Fr_refl _ _) g1 (by decide)) rfl
      · omega
set_option maxRecDepth 100000 in
set_option maxHeartbeats 4000000 in
theorem k_137b {l o nn : Int32} (h61 : I 61 = nI 0) (hx : (l < 0 ∨ nI 4 ≤ l) ∨ (nn < nI 1 ∨ ¬ nn ≤ nI 8)) {Q : mO × mHp → Prop} (kk : Q (.inl (some (.int (nI 0))), hS n u (va_up I 60 (nI 2)) A J B mk sn L xs X)) : mq 137 0 [some (.ref 67), some (.int l), some (.int o), some (.int nn), none, none, none, none] [] (hS n u I A J B mk sn L xs X) Q := by
  refine x_al1 (pc := 0) rfl rfl ?_
  refine x_al1 (pc := 1) rfl rfl ?_
  refine g_67_2 (pc := 2) (v := nI 0) rfl rfl h61 ?_
  refine x_ifN_eq (pc := 5) (t := 12) rfl rfl (by decide) (fun _ => ?_) (fun c => absurd c (by decide))
  refine x_il1 (pc := 12) rfl rfl ?_
  refine x_if_lt (pc := 13) (t := 32) rfl rfl rfl (fun c13 => ?_) (fun c13 => ?_)
  · refine x_const (pc := 32) (pc' := 33) (.int (nI 2)) rfl rfl rfl rfl ?_
    refine x_step (pc := 33) (pc' := 37) rfl rfl rfl rfl ?_
    refine x_k (pc := 37) rfl rfl rfl ⟨Nat.le_of_ble_eq_true rfl, Nat.le_of_ble_eq_true rfl, Nat.le_of_ble_eq_true rfl⟩ rfl (k_114 (I := I) (A := A) (w := 2) (by decide) ?_)
    show mq 137 40 [some (.ref 67), some (.int l), some (.int o), some (.int nn), none, none, none, none] [.int (nI 1)] (hS n u (va_up I 60 (nI 2)) A J B mk sn L xs X) _
    refine x_ifN_eq (pc := 40) (t := 45) rfl rfl (by decide) (fun c => absurd c (by decide)) (fun _ => ?_)
    refine x_const (pc := 43) (pc' := 44) (.int (nI 0)) rfl rfl rfl rfl ?_
    refine x_ret (pc := 44) rfl rfl ?_
    exact kk
  · refine x_il1 (pc := 16) rfl rfl ?_
    refine x_const (pc := 17) (pc' := 18) (.int (nI 3)) rfl rfl rfl rfl ?_
    refine x_cmp_gt (pc := 18) (t := 32) rfl rfl rfl (fun c18 => ?_) (fun c18 => ?_)
    · refine x_const (pc := 32) (pc' := 33) (.int (nI 2)) rfl rfl rfl rfl ?_
      refine x_step (pc := 33) (pc' := 37) rfl rfl rfl rfl ?_
      refine x_k (pc := 37) rfl rfl rfl ⟨Nat.le_of_ble_eq_true rfl, Nat.le_of_ble_eq_true rfl, Nat.le_of_ble_eq_true rfl⟩ rfl (k_114 (I := I) (A := A) (w := 2) (by decide) ?_)
      show mq 137 40 [some (.ref 67), some (.int l), some (.int o), some (.int nn), none, none, none, none] [.int (nI 1)] (hS n u (va_up I 60 (nI 2)) A J B mk sn L xs X) _
      refine x_ifN_eq (pc := 40) (t := 45) rfl rfl (by decide) (fun c => absurd c (by decide)) (fun _ => ?_)
      refine x_const (pc := 43) (pc' := 44) (.int (nI 0)) rfl rfl rfl rfl ?_
      refine x_ret (pc := 44) rfl rfl ?_
      exact kk
    · refine x_il1 (pc := 21) rfl rfl ?_
      refine x_const (pc := 22) (pc' := 23) (.int (nI 1)) rfl rfl rfl rfl ?_
      refine x_cmp_lt (pc := 23) (t := 32) rfl rfl rfl (fun c23 => ?_) (fun c23 => ?_)
      · refine x_const (pc := 32) (pc' := 33) (.int (nI 2)) rfl rfl rfl rfl ?_
        refine x_step (pc := 33) (pc' := 37) rfl rfl rfl rfl ?_
        refine x_k (pc := 37) rfl rfl rfl ⟨Nat.le_of_ble_eq_true rfl, Nat.le_of_ble_eq_true rfl, Nat.le_of_ble_eq_true rfl⟩ rfl (k_114 (I := I) (A := A) (w := 2) (by decide) ?_)
        show mq 137 40 [some (.ref 67), some (.int l), some (.int o), some (.int nn), none, none, none, none] [.int (nI 1)] (hS n u (va_up I 60 (nI 2)) A J B mk sn L xs X) _
        refine x_ifN_eq (pc := 40) (t := 45) rfl rfl (by decide) (fun c => absurd c (by decide)) (fun _ => ?_)
        refine x_const (pc := 43) (pc' := 44) (.int (nI 0)) rfl rfl rfl rfl ?_
        refine x_ret (pc := 44) rfl rfl ?_
        exact kk
      · refine x_il1 (pc := 26) rfl rfl ?_
        refine x_const (pc := 27) (pc' := 29) (.int (nI 8)) rfl rfl rfl rfl ?_
        refine x_cmp_le (pc := 29) (t := 36) rfl rfl rfl (fun c29 => ?_) (fun c29 => ?_)
        · exact absurd hx (fun q => q.elim (fun q => q.elim c13 (ngt_of (m := 3) (by decide) c18)) (fun q => q.elim c23 (fun q => q c29)))
        · refine x_const (pc := 32) (pc' := 33) (.int (nI 2)) rfl rfl rfl rfl ?_
          refine x_step (pc := 33) (pc' := 37) rfl rfl rfl rfl ?_
          refine x_k (pc := 37) rfl rfl rfl ⟨Nat.le_of_ble_eq_true rfl, Nat.le_of_ble_eq_true rfl, Nat.le_of_ble_eq_true rfl⟩ rfl (k_114 (I := I) (A := A) (w := 2) (by decide) ?_)
          show mq 137 40 [some (.ref 67), some (.int l), some (.int o), some (.int nn), none, none, none, none] [.int (nI 1)] (hS n u (va_up I 60 (nI 2)) A J B mk sn L xs X) _
          refine x_ifN_eq (pc := 40) (t := 45) rfl rfl (by decide) (fun c => absurd c (by decide)) (fun _ => ?_)
          refine x_const (pc := 43) (pc' := 44) (.int (nI 0)) rfl rfl rfl rfl ?_
          refine x_ret (pc := 44) rfl rfl ?_
          exact kk
set_option maxRecDepth 100000 in
set_option maxHeartbeats 4000000 in
theorem k_137x {l o nn : Int32} (h61 : I 61 = nI 1) {Q : mO × mHp → Prop} (kk : Q (.inl (some (.int (nI 0))), hS n u (va_up I 60 (nI 1)) A J B mk sn L xs X)) : mq 137 0 [some (.ref 67), some (.int l), some (.int o), some (.int nn), none, none, none, none] [] (hS n u I A J B mk sn L xs X) Q := by
  refine x_al1 (pc := 0) rfl rfl ?_
  refine x_al1 (pc := 1) rfl rfl ?_
  refine g_67_2 (pc := 2) (v := nI 1) rfl rfl h61 ?_
  refine x_ifN_eq (pc := 5) (t := 12) rfl rfl (by decide) (fun c => absurd c (by decide)) (fun _ => ?_)
  refine x_const (pc := 8) (pc' := 9) (.int (nI 1)) rfl rfl rfl rfl ?_
  refine x_step (pc := 9) (pc' := 37) rfl rfl rfl rfl ?_
  refine x_k (pc := 37) rfl rfl rfl ⟨Nat.le_of_ble_eq_true rfl, Nat.le_of_ble_eq_true rfl, Nat.le_of_ble_eq_true rfl⟩ rfl (k_114 (I := I) (A := A) (w := 1) (by decide) ?_)
  show mq 137 40 [some (.ref 67), some (.int l), some (.int o), some (.int nn), none, none, none, none] [.int (nI 1)] (hS n u (va_up I 60 (nI 1)) A J B mk sn L xs X) _
  refine x_ifN_eq (pc := 40) (t := 45) rfl rfl (by decide) (fun c => absurd c (by decide)) (fun _ => ?_)
  refine x_const (pc := 43) (pc' := 44) (.int (nI 0)) rfl rfl rfl rfl ?_
  refine x_ret (pc := 44) rfl rfl ?_
  exact kk
end S40
