/-! A batch is appended: the model. -/
/-- the model's rows of records, but for their offsets -/
def MT (a : Nat) (A : Nat → Nat → Int32) (l : List R5) : Prop := ∀ k, k < l.length → A a (4 + k) = (gR l k).2.1 ∧ A a (8 + k) = (gR l k).2.2.1 ∧ A a (12 + k) = (gR l k).2.2.2.1 ∧ A a (16 + k) = (gR l k).2.2.2.2
theorem mask15 {m : Nat} (h1 : 1 ≤ m) (h4 : m ≤ 4) : nI 15 >>> (nI (4 - m) &&& 31) = nI (2 ^ m - 1) := by
  match m, h1, h4 with
  | 1, _, _ => decide
  | 2, _, _ => decide
  | 3, _, _ => decide
  | 4, _, _ => decide
theorem mask_lt {m : Nat} (h4 : m ≤ 4) : 2 ^ m - 1 < 16 := by
  match m, h4 with
  | 0, _ => decide
  | 1, _ => decide
  | 2, _ => decide
  | 3, _ => decide
  | 4, _ => decide
theorem mask_1 {m : Nat} (h1 : 1 ≤ m) (h4 : m ≤ 4) : ¬ (2 ^ m - 1) / 2 ^ 0 % 2 ^ 1 = 0 := by
  match m, h1, h4 with
  | 1, _, _ => decide
  | 2, _, _ => decide
  | 3, _, _ => decide
  | 4, _, _ => decide
theorem kp_all {l : List R5} {m : Nat} (hm : l.length = m) (h4 : m ≤ 4) : kp (gR l) (2 ^ m - 1) (m - 0) 0 = l := by
  subst hm
  match l, h4 with
  | [], _ => exact rfl
  | [a], _ =>
    show kp (gR [a]) 1 1 0 = [a]
    simp [kp, gR]
  | [a, b], _ =>
    show kp (gR [a, b]) 3 2 0 = [a, b]
    simp [kp, gR]
  | [a, b, c], _ =>
    show kp (gR [a, b, c]) 7 3 0 = [a, b, c]
    simp [kp, gR]
  | [a, b, c, d], _ =>
    show kp (gR [a, b, c, d]) 15 4 0 = [a, b, c, d]
    simp [kp, gR]
theorem spW_hd {S : DS} {s l N : Nat} : wrs S (spW s 0 32 (hdr 8 (l + 1) 0 N) 4 0) = wr1 S (hdW s l N) := by
  have e : spW s 0 32 (hdr 8 (l + 1) 0 N) 4 0 = [wi (128 * s + 0) 32 (fun i => gB0 (hdr 8 (l + 1) 0 N) (0 - 0 + i))] := rfl
  rw [e]
  show wr1 S (wi (128 * s) 32 (fun i => gB0 (hdr 8 (l + 1) 0 N) (0 - 0 + i))) = _
  exact wr1_ext (fun i _ => by rw [Nat.sub_self, Nat.zero_add])
/-- what is known of a producer after a batch -/
def knw (a : Nat → Int32) (l p : Nat) (q : Int32) (m : Nat) (o : Int32) : Nat → Int32 := upd (upd (upd a (3 * (8 * l + p)) q) (3 * (8 * l + p) + 1) (nI m)) (3 * (8 * l + p) + 2) o
section S55
variable {n u : Nat} {I : Nat → Int32} {A : Nat → Nat → Int32} {J : Int64} {B : Nat → Int64} {mk sn L : Nat} {xs : Nat → Int32} {X : Nat → mC} {D : Nat → Nat} 
set_option maxRecDepth 100000 in
set_option maxHeartbeats 4000000 in
theorem k_136 {l p m : Nat} {q o : Int32} (hl : l < 4) (hp : p < 8) {Q : mO × mHp → Prop} (kk : ∀ A', Fr [55] A A' → A' 55 = knw (A 55) l p q m o → Q (.inl none, hS n u I A' J B mk sn L xs X)) : mq 136 0 [some (.ref 67), some (.int (nI l)), some (.int (nI p)), some (.int q), some (.int (nI m)), some (.int o), none] [] (hS n u I A J B mk sn L xs X) Q := by
  refine x_const (pc := 0) (pc' := 1) (.int (nI 3)) rfl rfl rfl rfl ?_
  refine x_const (pc := 1) (pc' := 3) (.int (nI 8)) rfl rfl rfl rfl ?_
  refine x_il1 (pc := 3) rfl rfl ?_
  refine x_imulN (pc := 4) (c := 8 * l) rfl rfl ?_
  refine x_il1 (pc := 5) rfl rfl ?_
  refine x_iaddN (pc := 6) (c := (8 * l) + p) rfl rfl ?_
  refine x_imulN (pc := 7) (c := 3 * ((8 * l) + p)) rfl rfl ?_
  refine x_is2 (pc := 8) (ml' := [some (.ref 67), some (.int (nI l)), some (.int (nI p)), some (.int q), some (.int (nI m)), some (.int o), some (.int (nI (3 * ((8 * l) + p))))]) rfl rfl ?_
  refine x_al1 (pc := 10) rfl rfl ?_
  refine g_67_14 (pc := 11) rfl rfl ?_
  refine x_il2 (pc := 14) rfl rfl ?_
  refine x_il1 (pc := 16) rfl rfl ?_
  refine as_73 (pc := 17) (q := 3 * ((8 * l) + p)) rfl rfl (by omega) ?_
  refine x_al1 (pc := 18) rfl rfl ?_
  refine g_67_14 (pc := 19) rfl rfl ?_
  refine x_il2 (pc := 22) rfl rfl ?_
  refine x_const (pc := 24) (pc' := 25) (.int (nI 1)) rfl rfl rfl rfl ?_
  refine x_iaddN (pc := 25) (c := (3 * ((8 * l) + p)) + 1) rfl rfl ?_
  refine x_il2 (pc := 26) rfl rfl ?_
  refine as_73 (pc := 28) (q := (3 * ((8 * l) + p)) + 1) rfl rfl (by omega) ?_
  refine x_al1 (pc := 29) rfl rfl ?_
  refine g_67_14 (pc := 30) rfl rfl ?_
  refine x_il2 (pc := 33) rfl rfl ?_
  refine x_const (pc := 35) (pc' := 36) (.int (nI 2)) rfl rfl rfl rfl ?_
  refine x_iaddN (pc := 36) (c := (3 * ((8 * l) + p)) + 2) rfl rfl ?_
  refine x_il2 (pc := 37) rfl rfl ?_
  refine as_73 (pc := 39) (q := (3 * ((8 * l) + p)) + 2) rfl rfl (by omega) ?_
  refine x_ret (pc := 40) rfl rfl ?_
  exact kk _ (Fr_u (Fr_u (Fr_u (Fr_refl _ _) (by decide)) (by decide)) (by decide)) rfl
set_option maxRecDepth 100000 in
set_option maxHeartbeats 4000000 in
theorem l_115n_51 {l p nn N cn : Nat} {q w8 : Int32} {r : List R5} (hr : r.length = nn) (h4 : nn ≤ 4) {Q : mO × mHp → Prop} : ∀ (z k : Nat) {A : Nat → Nat → Int32}, (k + z = nn) → (∀ i, i < k → A 51 i = nI (N + i)) → (MT 51 A r) → (∀ A', Fr [51] A A' → MB 51 A' (gR (nmb N r)) nn → mq 115 58 [some (.ref 67), some (.int (nI l)), some (.ref 69), some (.int (nI nn)), some (.int (nI p)), some (.int q), some (.int (nI N)), some (.int (nI cn)), some (.int w8), some (.int (nI nn)), none] [] (hS n u I A' J B mk sn L xs X) Q) → mq 115 37 [some (.ref 67), some (.int (nI l)), some (.ref 69), some (.int (nI nn)), some (.int (nI p)), some (.int q), some (.int (nI N)), some (.int (nI cn)), some (.int w8), some (.int (nI k)), none] [] (hS n u I A J B mk sn L xs X) Q := by
  intro z
  induction z with
  | zero =>
    intro k A hz hk hT kk
    refine x_il2 (pc := 37) rfl rfl ?_
    refine x_il1 (pc := 39) rfl rfl ?_
    refine x_cmpN_ge (pc := 40) (t := 58) rfl rfl (by omega) (by omega) (fun c40 => ?_) (fun c40 => ?_)
    · rw [show k = nn by omega]
      refine kk A (Fr_refl _ _) (fun i hi => ?_)
      rw [gR_nmb r N i (by omega)]
      exact ⟨hk i (by omega), hT i (by omega)⟩
    · omega
  | succ z ih =>
    intro k A hz hk hT kk
    refine x_il2 (pc := 37) rfl rfl ?_
    refine x_il1 (pc := 39) rfl rfl ?_
    refine x_cmpN_ge (pc := 40) (t := 58) rfl rfl (by omega) (by omega) (fun c40 => ?_) (fun c40 => ?_)
    · omega
    · refine x_al1 (pc := 43) rfl rfl ?_
      refine x_il2 (pc := 44) rfl rfl ?_
      refine x_il2 (pc := 46) rfl rfl ?_
      refine x_il2 (pc := 48) rfl rfl ?_
      refine x_iaddN (pc := 50) (c := N + k) rfl rfl ?_
      refine as_69 (pc := 51) (q := k) rfl rfl (by omega) ?_
      refine x_iincN (pc := 52) (c := 1) (ml' := [some (.ref 67), some (.int (nI l)), some (.ref 69), some (.int (nI nn)), some (.int (nI p)), some (.int q), some (.int (nI N)), some (.int (nI cn)), some (.int w8), some (.int (nI (k + 1))), none]) rfl rfl rfl rfl ?_
      refine x_step (pc := 55) (pc' := 37) rfl rfl rfl rfl ?_
      refine ih (k + 1) (A := va_up A 51 (upd (A 51) k (nI (N + k)))) (by omega) (fun i hi => ?_) (fun i hi => ?_) (fun A9 g9 h9 => kk A9 (Fr_cons (Fr_u (Fr_refl _ _) (by decide)) g9 (by decide)) h9)
      · by_cases h5 : i = k
        · subst h5
          exact pk_us
        · exact (pk_un h5).trans (hk i (by omega))
      · have h6 := hT i hi
        exact ⟨(pk_un (by omega)).trans h6.1, (pk_un (by omega)).trans h6.2.1, (pk_un (by omega)).trans h6.2.2.1, (pk_un (by omega)).trans h6.2.2.2⟩
set_option maxRecDepth 100000 in
set_option maxHeartbeats 4000000 in
theorem l_115t_51 {l p nn N s : Nat} {q : Int32} {w7 w9 w10 : Option Value} {t : List Nat} {S : DS} (hM : mD S I A) (hT : Tp I A t) (hb : ∀ i, gB0 t i < 256) (hs : s < 16) (hfit : mB (dD S) s + t.length ≤ 128) (hl : l < 4) (hnn : nn ≤ 4) (hp : p < 256) {Q : mO × mHp → Prop} (kk : ∀ I' A', Fr [61, 62, 63, 64, 65, 66, 67, 68, 69, 70, 71] I I' → Fr [50, 52, 54, 55, 56] A A' → mD (wrs S (apW s (mB (dD S) s) t)) I' A' → (dO (wrs S (apW s (mB (dD S) s) t)) = false → Fr [62, 63, 65, 66, 67, 68, 71] I I' ∧ Fr [50, 52, 54, 55, 51] A A' ∧ A' 55 = if p < 8 then knw (A 55) l p q nn (nI N) else A 55) → Q (.inl (some (.int (nI N))), hS n u I' A' J B mk sn L xs X)) : mq 115 179 [some (.ref 67), some (.int (nI l)), some (.ref 69), some (.int (nI nn)), some (.int (nI p)), some (.int q), some (.int (nI N)), w7, some (.int (nI s)), w9, w10] [] (hS n u I A J B mk sn L xs X) Q := by
  refine x_al1 (pc := 179) rfl rfl ?_
  refine x_il2 (pc := 180) rfl rfl ?_
  refine x_k (pc := 182) rfl rfl rfl ⟨Nat.le_of_ble_eq_true rfl, Nat.le_of_ble_eq_true rfl, Nat.le_of_ble_eq_true rfl⟩ rfl (mq_k (c_123 (D := dD S) hM.2.1 hs) ?_)
  show mq 115 185 [some (.ref 67), some (.int (nI l)), some (.ref 69), some (.int (nI nn)), some (.int (nI p)), some (.int q), some (.int (nI N)), w7, some (.int (nI s)), w9, w10] [.int (nI (mB (dD S) s))] (hS n u I A J B mk sn L xs X) _
  refine x_is2 (pc := 185) (ml' := [some (.ref 67), some (.int (nI l)), some (.ref 69), some (.int (nI nn)), some (.int (nI p)), some (.int q), some (.int (nI N)), w7, some (.int (nI s)), some (.int (nI (mB (dD S) s))), w10]) rfl rfl ?_
  refine x_il2 (pc := 187) rfl rfl ?_
  refine x_al1 (pc := 189) rfl rfl ?_
  refine g_67_13 (pc := 190) (v := nI t.length) rfl rfl hT.1 ?_
  refine x_iaddN (pc := 193) (c := (mB (dD S) s) + t.length) rfl rfl ?_
  refine x_is2 (pc := 194) (ml' := [some (.ref 67), some (.int (nI l)), some (.ref 69), some (.int (nI nn)), some (.int (nI p)), some (.int q), some (.int (nI N)), w7, some (.int (nI s)), some (.int (nI (mB (dD S) s))), some (.int (nI ((mB (dD S) s) + t.length)))]) rfl rfl ?_
  refine x_al1 (pc := 196) rfl rfl ?_
  refine x_il2 (pc := 197) rfl rfl ?_
  refine x_il2 (pc := 199) rfl rfl ?_
  refine x_il2 (pc := 201) rfl rfl ?_
  refine x_k (pc := 203) rfl rfl rfl ⟨Nat.le_of_ble_eq_true rfl, Nat.le_of_ble_eq_true rfl, Nat.le_of_ble_eq_true rfl⟩ rfl (k_133 (I := I) (A := A) (S := S) (s := s) (f := mB (dD S) s) (e := (mB (dD S) s + t.length)) (t := t) hM hT hb hs hfit (by omega) (by omega) (fun I1 A1 f1 g1 h1 x1 => ?_))
  show mq 115 206 [some (.ref 67), some (.int (nI l)), some (.ref 69), some (.int (nI nn)), some (.int (nI p)), some (.int q), some (.int (nI N)), w7, some (.int (nI s)), some (.int (nI (mB (dD S) s))), some (.int (nI ((mB (dD S) s) + t.length)))] [] (hS n u I1 A1 J B mk sn L xs X) _
  have ev : wrs S (apW s (mB (dD S) s) t) = wr1 (wrs S (spW s (mB (dD S) s) (mB (dD S) s + t.length) t 4 (mB (dD S) s))) (mkW s (mB (dD S) s + t.length)) := by
    unfold apW
    rw [wrs_app]
    rfl
  refine x_al1 (pc := 206) rfl rfl ?_
  refine x_k (pc := 207) rfl rfl rfl ⟨Nat.le_of_ble_eq_true rfl, Nat.le_of_ble_eq_true rfl, Nat.le_of_ble_eq_true rfl⟩ rfl (k_134 (I := I1) (A := A1) (mkW s (mB (dD S) s + t.length)) h1 (fun o2 o0 e2 I2 f2 h2 => ?_) (fun o2 I2 A2 f2 g2 h2 => ?_))
  · have h61 : I2 61 = nI 0 := by
      rw [h2.1, o2]
      rfl
    show mq 115 210 [some (.ref 67), some (.int (nI l)), some (.ref 69), some (.int (nI nn)), some (.int (nI p)), some (.int q), some (.int (nI N)), w7, some (.int (nI s)), some (.int (nI (mB (dD S) s))), some (.int (nI ((mB (dD S) s) + t.length)))] [.int (nI 1)] (hS n u I2 A1 J B mk sn L xs X) _
    refine x_ifN_eq (pc := 210) (t := 248) rfl rfl (by decide) (fun c => absurd c (by decide)) (fun _ => ?_)
    refine x_al1 (pc := 213) rfl rfl ?_
    refine g_67_1 (pc := 214) rfl rfl ?_
    refine x_const (pc := 217) (pc' := 220) (.int (nI 128)) rfl rfl rfl rfl ?_
    refine x_il2 (pc := 220) rfl rfl ?_
    refine x_imulN (pc := 222) (c := 128 * s) rfl rfl ?_
    refine x_il2 (pc := 223) rfl rfl ?_
    refine x_const (pc := 225) (pc' := 227) (.int (nI 8)) rfl rfl rfl rfl ?_
    refine x_ishrV (pc := 227) (v := nI ((mB (dD S) s + t.length) / 2 ^ 8)) rfl (pk_shrN (by omega) _ 8 (by decide)) ?_
    refine x_top (y := nI ((mB (dD S) s + t.length) / 2 ^ 8 % 256)) (congrArg nI (by omega)) ?_
    refine as_68 (pc := 228) (q := 128 * s) rfl rfl (by omega) ?_
    refine x_al1 (pc := 229) rfl rfl ?_
    refine g_67_1 (pc := 230) rfl rfl ?_
    refine x_const (pc := 233) (pc' := 236) (.int (nI 128)) rfl rfl rfl rfl ?_
    refine x_il2 (pc := 236) rfl rfl ?_
    refine x_imulN (pc := 238) (c := 128 * s) rfl rfl ?_
    refine x_const (pc := 239) (pc' := 240) (.int (nI 1)) rfl rfl rfl rfl ?_
    refine x_iaddN (pc := 240) (c := (128 * s) + 1) rfl rfl ?_
    refine x_il2 (pc := 241) rfl rfl ?_
    refine x_const (pc := 243) (pc' := 246) (.int (nI 255)) rfl rfl rfl rfl ?_
    refine x_iandV (pc := 246) (v := nI ((mB (dD S) s + t.length) % 2 ^ 8)) rfl (pk_andN (by omega) 8 (by decide)) ?_
    refine x_top (y := nI ((mB (dD S) s + t.length) / 2 ^ 0 % 256)) (congrArg nI (by omega)) ?_
    refine as_68 (pc := 247) (q := (128 * s) + 1) rfl rfl (by omega) ?_
    refine x_al1 (pc := 248) rfl rfl ?_
    refine g_67_2 (pc := 249) (v := nI 0) rfl rfl h61 ?_
    refine x_ifN_ne (pc := 252) (t := 274) rfl rfl (by decide) (fun c => absurd c (by decide)) (fun _ => ?_)
    refine x_il2 (pc := 255) rfl rfl ?_
    refine x_const (pc := 257) (pc' := 259) (.int (nI 8)) rfl rfl rfl rfl ?_
    refine x_cmpN_ge (pc := 259) (t := 274) rfl rfl (by omega) (by omega) (fun c259 => ?_) (fun c259 => ?_)
    · refine x_il2 (pc := 274) rfl rfl ?_
      refine x_ret (pc := 276) rfl rfl ?_
      have h3 : mD (wrs S (apW s (mB (dD S) s) t)) I2 (va_up (va_up A1 50 (upd (A1 50) (128 * s) (nI ((mB (dD S) s + t.length) / 2 ^ 8 % 256)))) 50 (upd (upd (A1 50) (128 * s) (nI ((mB (dD S) s + t.length) / 2 ^ 8 % 256))) ((128 * s) + 1) (nI ((mB (dD S) s + t.length) / 2 ^ 0 % 256)))) := by
        rw [ev]
        refine ⟨h2, ?_, fun q => Bool.noConfusion (o2.symm.trans q)⟩
        rw [e2]
        have d0 := DK_put (j := 0) (g := gB0 [(mB (dD S) s + t.length) / 2 ^ 8 % 256, (mB (dD S) s + t.length) / 2 ^ 0 % 256]) (p := 128 * s) (by rw [dW_0]; exact h1.2.1) (gB0_by (by simp; omega) 0) (by omega)
        exact DK_put (j := 1) (g := gB0 [(mB (dD S) s + t.length) / 2 ^ 8 % 256, (mB (dD S) s + t.length) / 2 ^ 0 % 256]) (p := 128 * s) d0 (gB0_by (by simp; omega) 1) (by omega)
      refine kk _ _ (Fr_cons (Fr_cons (Fr_refl _ _) f1 (by decide)) f2 (by decide)) (Fr_u (Fr_u (Fr_cons (Fr_refl _ _) g1 (by decide)) (by decide)) (by decide)) h3 (fun _ => ⟨Fr_cons (Fr_cons (Fr_refl _ I) (x1 (wr1_D o2).1).1 (by decide)) f2 (by decide), Fr_u (Fr_u (Fr_cons (Fr_refl _ A) (x1 (wr1_D o2).1).2 (by decide)) (by decide)) (by decide), ?_⟩)
      rw [if_neg (by omega)]
      exact (x1 (wr1_D o2).1).2 55 (by decide)
    · refine x_al1 (pc := 262) rfl rfl ?_
      refine x_il1 (pc := 263) rfl rfl ?_
      refine x_il2 (pc := 264) rfl rfl ?_
      refine x_il2 (pc := 266) rfl rfl ?_
      refine x_il1 (pc := 268) rfl rfl ?_
      refine x_il2 (pc := 269) rfl rfl ?_
      refine x_k (pc := 271) rfl rfl rfl ⟨Nat.le_of_ble_eq_true rfl, Nat.le_of_ble_eq_true rfl, Nat.le_of_ble_eq_true rfl⟩ rfl (k_136 (I := I2) (A := va_up (va_up A1 50 (upd (A1 50) (128 * s) (nI ((mB (dD S) s + t.length) / 2 ^ 8 % 256)))) 50 (upd (upd (A1 50) (128 * s) (nI ((mB (dD S) s + t.length) / 2 ^ 8 % 256))) ((128 * s) + 1) (nI ((mB (dD S) s + t.length) / 2 ^ 0 % 256)))) (l := l) (p := p) (m := nn) (q := q) (o := nI N) hl (by omega) (fun A4 g4 h4 => ?_))
      show mq 115 274 [some (.ref 67), some (.int (nI l)), some (.ref 69), some (.int (nI nn)), some (.int (nI p)), some (.int q), some (.int (nI N)), w7, some (.int (nI s)), some (.int (nI (mB (dD S) s))), some (.int (nI ((mB (dD S) s) + t.length)))] [] (hS n u I2 A4 J B mk sn L xs X) _
      refine x_il2 (pc := 274) rfl rfl ?_
      refine x_ret (pc := 276) rfl rfl ?_
      have h3 : mD (wrs S (apW s (mB (dD S) s) t)) I2 (va_up (va_up A1 50 (upd (A1 50) (128 * s) (nI ((mB (dD S) s + t.length) / 2 ^ 8 % 256)))) 50 (upd (upd (A1 50) (128 * s) (nI ((mB (dD S) s + t.length) / 2 ^ 8 % 256))) ((128 * s) + 1) (nI ((mB (dD S) s + t.length) / 2 ^ 0 % 256)))) := by
        rw [ev]
        refine ⟨h2, ?_, fun q => Bool.noConfusion (o2.symm.trans q)⟩
        rw [e2]
        have d0 := DK_put (j := 0) (g := gB0 [(mB (dD S) s + t.length) / 2 ^ 8 % 256, (mB (dD S) s + t.length) / 2 ^ 0 % 256]) (p := 128 * s) (by rw [dW_0]; exact h1.2.1) (gB0_by (by simp; omega) 0) (by omega)
        exact DK_put (j := 1) (g := gB0 [(mB (dD S) s + t.length) / 2 ^ 8 % 256, (mB (dD S) s + t.length) / 2 ^ 0 % 256]) (p := 128 * s) d0 (gB0_by (by simp; omega) 1) (by omega)
      refine kk _ _ (Fr_cons (Fr_cons (Fr_refl _ _) f1 (by decide)) f2 (by decide)) (Fr_cons (Fr_u (Fr_u (Fr_cons (Fr_refl _ _) g1 (by decide)) (by decide)) (by decide)) g4 (by decide)) ⟨h3.1, ?_, fun q => absurd (ev ▸ q) (by rw [o2]; decide)⟩ (fun _ => ⟨Fr_cons (Fr_cons (Fr_refl _ I) (x1 (wr1_D o2).1).1 (by decide)) f2 (by decide), Fr_cons (Fr_u (Fr_u (Fr_cons (Fr_refl _ A) (x1 (wr1_D o2).1).2 (by decide)) (by decide)) (by decide)) g4 (by decide), ?_⟩)
      · rw [g4 50 (by decide)]
        exact h3.2.1
      · rw [if_pos (by omega), h4, show (va_up (va_up A1 50 (upd (A1 50) (128 * s) (nI ((mB (dD S) s + t.length) / 2 ^ 8 % 256)))) 50 (upd (upd (A1 50) (128 * s) (nI ((mB (dD S) s + t.length) / 2 ^ 8 % 256))) ((128 * s) + 1) (nI ((mB (dD S) s + t.length) / 2 ^ 0 % 256)))) 55 = A1 55 from rfl, (x1 (wr1_D o2).1).2 55 (by decide)]
  · have h61 : I2 61 = nI 1 := by
      rw [h2.1.1, o2]
      rfl
    show mq 115 210 [some (.ref 67), some (.int (nI l)), some (.ref 69), some (.int (nI nn)), some (.int (nI p)), some (.int q), some (.int (nI N)), w7, some (.int (nI s)), some (.int (nI (mB (dD S) s))), some (.int (nI ((mB (dD S) s) + t.length)))] [.int (nI 0)] (hS n u I2 A2 J B mk sn L xs X) _
    refine x_ifN_eq (pc := 210) (t := 248) rfl rfl (by decide) (fun _ => ?_) (fun c => absurd c (by decide))
    refine x_al1 (pc := 248) rfl rfl ?_
    refine g_67_2 (pc := 249) (v := nI 1) rfl rfl h61 ?_
    refine x_ifN_ne (pc := 252) (t := 274) rfl rfl (by decide) (fun _ => ?_) (fun c => absurd c (by decide))
    refine x_il2 (pc := 274) rfl rfl ?_
    refine x_ret (pc := 276) rfl rfl ?_
    refine kk _ _ (Fr_cons (Fr_cons (Fr_refl _ _) f1 (by decide)) f2 (by decide)) (Fr_cons (Fr_cons (Fr_refl _ _) g1 (by decide)) g2 (by decide)) (by rw [ev]; exact h2) (fun q => absurd (ev ▸ q) (by rw [o2]; decide))
set_option maxRecDepth 100000 in
set_option maxHeartbeats 4000000 in
theorem k_115a_51 {l p nn N cn : Nat} {f bc : Nat → Nat} {q : Int32} {r : List R5} {S : DS} (hM : mD S I A) (ho : dO S = false) (hl : l < 4) (hG : SG (dD S) l f cn) (hW : ∀ k, k < cn → WS (dD S) (f k) (bc (f k))) (hnx : nxO (dD S) f bc cn = nI N) (hNb : N + 4 < 2 ^ 31) (hr : r.length = nn) (h1 : 1 ≤ nn) (h4 : nn ≤ 4) (hp : p < 256) (hT : MT 51 A r) (hcp : 0 < cn) (hfit : mB (dD S) (f (cn - 1)) + (eBt (nI (bB (dD S) (f (cn - 1)))) (nI p) q (nmb N r)).length ≤ 128) {Q : mO × mHp → Prop} (kk : ∀ I' A', Fr [61, 62, 63, 64, 65, 66, 67, 68, 69, 70, 71] I I' → Fr [50, 52, 54, 55, 56, 51] A A' → mD (wrs S (apW (f (cn - 1)) (mB (dD S) (f (cn - 1))) (eBt (nI (bB (dD S) (f (cn - 1)))) (nI p) q (nmb N r)))) I' A' → (dO (wrs S (apW (f (cn - 1)) (mB (dD S) (f (cn - 1))) (eBt (nI (bB (dD S) (f (cn - 1)))) (nI p) q (nmb N r)))) = false → Fr [62, 63, 65, 66, 67, 68, 71] I I' ∧ Fr [50, 52, 54, 55, 51] A A' ∧ A' 55 = if p < 8 then knw (A 55) l p q nn (nI N) else A 55) → MB 51 A' (gR (nmb N r)) nn → Q (.inl (some (.int (nI N))), hS n u I' A' J B mk sn L xs X)) : mq 115 0 [some (.ref 67), some (.int (nI l)), some (.ref 69), some (.int (nI nn)), some (.int (nI p)), some (.int q), none, none, none, none, none] [] (hS n u I A J B mk sn L xs X) Q := by
  have h61 : I 61 = nI 0 := by
    rw [hM.1.1, ho]
    rfl
  have hbyt := hM.2.1.2.1
  have hcn16 := SG_le hG
  have hfs : 0 < cn → f (cn - 1) < 16 := fun q => (hG.1 _ (by omega)).1
  have hlr := nmb_len r N
  have hel := eBt_len (nI (bB (dD S) (f (cn - 1)))) (nI p) q (nmb N r)
  rw [nmb_len] at hel
  obtain ⟨t, ht⟩ : ∃ x, x = eBt (nI (bB (dD S) (f (cn - 1)))) (nI p) q (nmb N r) := ⟨_, rfl⟩
  have htb : ∀ i, gB0 t i < 256 := by
    rw [ht]
    exact gB0_by (eBt_by _ _ _ _)
  rw [← ht] at hfit kk hel
  refine x_al1 (pc := 0) rfl rfl ?_
  refine x_il1 (pc := 1) rfl rfl ?_
  refine x_k (pc := 2) rfl rfl rfl ⟨Nat.le_of_ble_eq_true rfl, Nat.le_of_ble_eq_true rfl, Nat.le_of_ble_eq_true rfl⟩ rfl (k_116u (I := I) (A := A) (D := dD S) (bc := bc) hM.2.1 hl hG hW h61 (fun I1 A1 f1 g1 => ?_))
  show mq 115 5 [some (.ref 67), some (.int (nI l)), some (.ref 69), some (.int (nI nn)), some (.int (nI p)), some (.int q), none, none, none, none, none] [.int (nxO (dD S) f bc cn)] (hS n u I1 A1 J B mk sn L xs X) _
  refine x_top (y := nI N) (hnx) ?_
  refine x_is2 (pc := 5) (ml' := [some (.ref 67), some (.int (nI l)), some (.ref 69), some (.int (nI nn)), some (.int (nI p)), some (.int q), some (.int (nI N)), none, none, none, none]) rfl rfl ?_
  refine x_al1 (pc := 7) rfl rfl ?_
  refine x_il1 (pc := 8) rfl rfl ?_
  refine x_k (pc := 9) rfl rfl rfl ⟨Nat.le_of_ble_eq_true rfl, Nat.le_of_ble_eq_true rfl, Nat.le_of_ble_eq_true rfl⟩ rfl (k_117 (I := I1) (A := A1) (D := dD S) (by rw [g1 50 (by decide)]; exact hM.2.1) hl ((f1 61 (by decide)).trans h61) ?_)
  show mq 115 12 [some (.ref 67), some (.int (nI l)), some (.ref 69), some (.int (nI nn)), some (.int (nI p)), some (.int q), some (.int (nI N)), none, none, none, none] [.int (nI (cS (ow (dD S) l) 16))] (hS n u I1 A1 J B mk sn L xs X) _
  refine x_top (y := nI cn) (congrArg nI (SG_n hG)) ?_
  refine x_is2 (pc := 12) (ml' := [some (.ref 67), some (.int (nI l)), some (.ref 69), some (.int (nI nn)), some (.int (nI p)), some (.int q), some (.int (nI N)), some (.int (nI cn)), none, none, none]) rfl rfl ?_
  refine x_il2 (pc := 14) rfl rfl ?_
  refine x_ifN_ne (pc := 16) (t := 23) rfl rfl (by omega) (fun c16 => ?_) (fun c16 => ?_)
  · refine x_al1 (pc := 23) rfl rfl ?_
    refine x_il1 (pc := 24) rfl rfl ?_
    refine x_il2 (pc := 25) rfl rfl ?_
    refine x_const (pc := 27) (pc' := 28) (.int (nI 1)) rfl rfl rfl rfl ?_
    refine x_isubN (pc := 28) rfl ((by omega)) ?_
    refine x_k (pc := 29) rfl rfl rfl ⟨Nat.le_of_ble_eq_true rfl, Nat.le_of_ble_eq_true rfl, Nat.le_of_ble_eq_true rfl⟩ rfl (k_119 (I := I1) (A := A1) (D := dD S) (m := cn - 1) (by rw [g1 50 (by decide)]; exact hM.2.1) hG (by omega) hl ((f1 61 (by decide)).trans h61) ?_)
    show mq 115 32 [some (.ref 67), some (.int (nI l)), some (.ref 69), some (.int (nI nn)), some (.int (nI p)), some (.int q), some (.int (nI N)), some (.int (nI cn)), none, none, none] [.int (nI (f (cn - 1)))] (hS n u I1 A1 J B mk sn L xs X) _
    refine x_is2 (pc := 32) (ml' := [some (.ref 67), some (.int (nI l)), some (.ref 69), some (.int (nI nn)), some (.int (nI p)), some (.int q), some (.int (nI N)), some (.int (nI cn)), some (.int (nI (f (cn - 1)))), none, none]) rfl rfl ?_
    refine x_const (pc := 34) (pc' := 35) (.int (nI 0)) rfl rfl rfl rfl ?_
    refine x_is2 (pc := 35) (ml' := [some (.ref 67), some (.int (nI l)), some (.ref 69), some (.int (nI nn)), some (.int (nI p)), some (.int q), some (.int (nI N)), some (.int (nI cn)), some (.int (nI (f (cn - 1)))), some (.int (nI 0)), none]) rfl rfl ?_
    refine l_115n_51 (I := I1) (A := A1) (r := r) hr h4 nn 0 (Nat.zero_add _) (fun i hi => absurd hi (Nat.not_lt_zero i)) (fun i hi => by rw [g1 51 (by decide)]; exact hT i hi) (fun A2 g2 b2 => ?_)
    refine x_al1 (pc := 58) rfl rfl ?_
    refine x_const (pc := 59) (pc' := 60) (.int (nI 0)) rfl rfl rfl rfl ?_
    refine p_67_13 (pc := 60) rfl rfl ?_
    refine x_il2 (pc := 63) rfl rfl ?_
    refine x_ifN_lt (pc := 65) (t := 90) rfl rfl (by omega) ?_
    refine x_al1 (pc := 68) rfl rfl ?_
    refine x_al1 (pc := 69) rfl rfl ?_
    refine x_il1 (pc := 70) rfl rfl ?_
    refine x_const (pc := 71) (pc' := 73) (.int (nI 15)) rfl rfl rfl rfl ?_
    refine x_const (pc := 73) (pc' := 74) (.int (nI 4)) rfl rfl rfl rfl ?_
    refine x_il1 (pc := 74) rfl rfl ?_
    refine x_isubN (pc := 75) rfl ((by omega)) ?_
    refine x_ishrV (pc := 76) (v := nI (2 ^ nn - 1)) rfl (mask15 h1 h4) ?_
    refine x_al1 (pc := 77) rfl rfl ?_
    refine x_il2 (pc := 78) rfl rfl ?_
    refine x_k (pc := 80) rfl rfl rfl ⟨Nat.le_of_ble_eq_true rfl, Nat.le_of_ble_eq_true rfl, Nat.le_of_ble_eq_true rfl⟩ rfl (mq_k (c_120 (I := va_up I1 68 (nI 0)) (A := A2) (D := dD S) (by rw [g2 50 (by decide), g1 50 (by decide)]; exact hM.2.1) (hG.1 _ (by omega)).1) ?_)
    show mq 115 83 [some (.ref 67), some (.int (nI l)), some (.ref 69), some (.int (nI nn)), some (.int (nI p)), some (.int q), some (.int (nI N)), some (.int (nI cn)), some (.int (nI (f (cn - 1)))), some (.int (nI nn)), none] [.int (nI (bB (dD S) (f (cn - 1)))), .int (nI (2 ^ nn - 1)), .int (nI nn), .ref 69, .ref 67] (hS n u (va_up I1 68 (nI 0)) A2 J B mk sn L xs X) _
    refine x_il2 (pc := 83) rfl rfl ?_
    refine x_il2 (pc := 85) rfl rfl ?_
    refine x_k (pc := 87) rfl rfl rfl ⟨Nat.le_of_ble_eq_true rfl, Nat.le_of_ble_eq_true rfl, Nat.le_of_ble_eq_true rfl⟩ rfl (k_127_51 (I := va_up I1 68 (nI 0)) (A := A2) (nn := nn) (m := 2 ^ nn - 1) (k0 := 0) (ba := nI (bB (dD S) (f (cn - 1)))) (p := nI p) (s := q) (g := gR (nmb N r)) (t := []) (mask_lt h4) h4 (by omega) (fun i hi => absurd hi (Nat.not_lt_zero i)) (mask_1 h1 h4) b2 ⟨rfl, fun j hj => absurd hj (Nat.not_lt_zero j)⟩ (by rw [List.length_nil]; omega) (fun I3 A3 f3 g3 h3 => ?_))
    show mq 115 90 [some (.ref 67), some (.int (nI l)), some (.ref 69), some (.int (nI nn)), some (.int (nI p)), some (.int q), some (.int (nI N)), some (.int (nI cn)), some (.int (nI (f (cn - 1)))), some (.int (nI nn)), none] [] (hS n u I3 A3 J B mk sn L xs X) _
    rw [kp_all (l := (nmb N r)) (by rw [hlr, hr]) h4, List.nil_append, ← ht] at h3
    refine x_il2 (pc := 90) rfl rfl ?_
    refine x_ifN_lt (pc := 92) (t := 112) rfl rfl (by omega) ?_
    refine x_al1 (pc := 95) rfl rfl ?_
    refine x_il2 (pc := 96) rfl rfl ?_
    refine x_k (pc := 98) rfl rfl rfl ⟨Nat.le_of_ble_eq_true rfl, Nat.le_of_ble_eq_true rfl, Nat.le_of_ble_eq_true rfl⟩ rfl (mq_k (c_123 (I := I3) (A := A3) (D := dD S) (by rw [g3 50 (by decide), g2 50 (by decide), g1 50 (by decide)]; exact hM.2.1) (hG.1 _ (by omega)).1) ?_)
    show mq 115 101 [some (.ref 67), some (.int (nI l)), some (.ref 69), some (.int (nI nn)), some (.int (nI p)), some (.int q), some (.int (nI N)), some (.int (nI cn)), some (.int (nI (f (cn - 1)))), some (.int (nI nn)), none] [.int (nI (mB (dD S) (f (cn - 1))))] (hS n u I3 A3 J B mk sn L xs X) _
    refine x_al1 (pc := 101) rfl rfl ?_
    refine g_67_13 (pc := 102) (v := nI ((t).length)) rfl rfl h3.1 ?_
    refine x_iaddN (pc := 105) (c := (mB (dD S) (f (cn - 1))) + ((t).length)) rfl rfl ?_
    refine x_const (pc := 106) (pc' := 109) (.int (nI 128)) rfl rfl rfl rfl ?_
    have hmb := mB_lt hbyt (f (cn - 1))
    refine x_cmpN_le (pc := 109) (t := 169) rfl rfl (by omega) (by omega) (fun c109 => ?_) (fun c109 => ?_)
    · refine x_al1 (pc := 169) rfl rfl ?_
      refine g_67_2 (pc := 170) (v := nI 0) rfl rfl ((f3 61 (by decide)).trans ((f1 61 (by decide)).trans h61)) ?_
      refine x_ifN_eq (pc := 173) (t := 179) rfl rfl (by decide) (fun _ => ?_) (fun c => absurd c (by decide))
      have F : Fr [65, 66, 67, 68, 71] I I3 := (Fr_cons (Fr_u (Fr_cons (Fr_refl _ _) f1 (by decide)) (by decide)) f3 (by decide))
      have G : Fr [52, 54, 51] A A3 := (Fr_cons (Fr_cons (Fr_cons (Fr_refl _ _) g1 (by decide)) g2 (by decide)) g3 (by decide))
      exact l_115t_51 (t := t) (mD_fr hM F G (by decide) (by decide)) h3 htb (hG.1 _ (by omega)).1 hfit hl h4 hp (fun I8 A8 f8 g8 h8 x8 => kk I8 A8 (Fr_cons (Fr_cons (Fr_refl _ I) F (by decide)) f8 (by decide)) (Fr_cons (Fr_cons (Fr_refl _ A) G (by decide)) g8 (by decide)) h8 (fun q => ⟨Fr_cons (Fr_cons (Fr_refl _ I) F (by decide)) (x8 q).1 (by decide), Fr_cons (Fr_cons (Fr_refl _ A) G (by decide)) (x8 q).2.1 (by decide), by rw [← G 55 (by decide)]; exact (x8 q).2.2⟩) (MB_fr (MB_fr b2 g3 (by decide)) g8 (by decide)))
    · omega
  · omega
set_option maxRecDepth 100000 in
set_option maxHeartbeats 4000000 in
theorem k_115c_51 {l p nn N cn : Nat} {f bc : Nat → Nat} {q : Int32} {r : List R5} {S : DS} (hM : mD S I A) (ho : dO S = false) (hl : l < 4) (hG : SG (dD S) l f cn) (hW : ∀ k, k < cn → WS (dD S) (f k) (bc (f k))) (hnx : nxO (dD S) f bc cn = nI N) (hNb : N + 4 < 2 ^ 31) (hr : r.length = nn) (h1 : 1 ≤ nn) (h4 : nn ≤ 4) (hp : p < 256) (hT : MT 51 A r) (hnf : cn = 0 ∨ 128 < mB (dD S) (f (cn - 1)) + (eBt (nI (bB (dD S) (f (cn - 1)))) (nI p) q (nmb N r)).length) (hfr : frS (dD S) 16 0 = -1) {Q : mO × mHp → Prop} (kr : ∀ I' A', Fr [65, 66, 67, 68, 71] I I' → Fr [52, 54, 51] A A' → MB 51 A' (gR (nmb N r)) nn → Q (.inl (some (.int (-1))), hS n u I' A' J B mk sn L xs X)) : mq 115 0 [some (.ref 67), some (.int (nI l)), some (.ref 69), some (.int (nI nn)), some (.int (nI p)), some (.int q), none, none, none, none, none] [] (hS n u I A J B mk sn L xs X) Q := by
  have h61 : I 61 = nI 0 := by
    rw [hM.1.1, ho]
    rfl
  have hbyt := hM.2.1.2.1
  have hcn16 := SG_le hG
  have hfs : 0 < cn → f (cn - 1) < 16 := fun q => (hG.1 _ (by omega)).1
  have hlr := nmb_len r N
  have hel := eBt_len (nI (bB (dD S) (f (cn - 1)))) (nI p) q (nmb N r)
  rw [nmb_len] at hel
  obtain ⟨t, ht⟩ : ∃ x, x = eBt (nI (bB (dD S) (f (cn - 1)))) (nI p) q (nmb N r) := ⟨_, rfl⟩
  have htb : ∀ i, gB0 t i < 256 := by
    rw [ht]
    exact gB0_by (eBt_by _ _ _ _)
  rw [← ht] at hnf hel
  refine x_al1 (pc := 0) rfl rfl ?_
  refine x_il1 (pc := 1) rfl rfl ?_
  refine x_k (pc := 2) rfl rfl rfl ⟨Nat.le_of_ble_eq_true rfl, Nat.le_of_ble_eq_true rfl, Nat.le_of_ble_eq_true rfl⟩ rfl (k_116u (I := I) (A := A) (D := dD S) (bc := bc) hM.2.1 hl hG hW h61 (fun I1 A1 f1 g1 => ?_))
  show mq 115 5 [some (.ref 67), some (.int (nI l)), some (.ref 69), some (.int (nI nn)), some (.int (nI p)), some (.int q), none, none, none, none, none] [.int (nxO (dD S) f bc cn)] (hS n u I1 A1 J B mk sn L xs X) _
  refine x_top (y := nI N) (hnx) ?_
  refine x_is2 (pc := 5) (ml' := [some (.ref 67), some (.int (nI l)), some (.ref 69), some (.int (nI nn)), some (.int (nI p)), some (.int q), some (.int (nI N)), none, none, none, none]) rfl rfl ?_
  refine x_al1 (pc := 7) rfl rfl ?_
  refine x_il1 (pc := 8) rfl rfl ?_
  refine x_k (pc := 9) rfl rfl rfl ⟨Nat.le_of_ble_eq_true rfl, Nat.le_of_ble_eq_true rfl, Nat.le_of_ble_eq_true rfl⟩ rfl (k_117 (I := I1) (A := A1) (D := dD S) (by rw [g1 50 (by decide)]; exact hM.2.1) hl ((f1 61 (by decide)).trans h61) ?_)
  show mq 115 12 [some (.ref 67), some (.int (nI l)), some (.ref 69), some (.int (nI nn)), some (.int (nI p)), some (.int q), some (.int (nI N)), none, none, none, none] [.int (nI (cS (ow (dD S) l) 16))] (hS n u I1 A1 J B mk sn L xs X) _
  refine x_top (y := nI cn) (congrArg nI (SG_n hG)) ?_
  refine x_is2 (pc := 12) (ml' := [some (.ref 67), some (.int (nI l)), some (.ref 69), some (.int (nI nn)), some (.int (nI p)), some (.int q), some (.int (nI N)), some (.int (nI cn)), none, none, none]) rfl rfl ?_
  refine x_il2 (pc := 14) rfl rfl ?_
  refine x_ifN_ne (pc := 16) (t := 23) rfl rfl (by omega) (fun c16 => ?_) (fun c16 => ?_)
  · refine x_al1 (pc := 23) rfl rfl ?_
    refine x_il1 (pc := 24) rfl rfl ?_
    refine x_il2 (pc := 25) rfl rfl ?_
    refine x_const (pc := 27) (pc' := 28) (.int (nI 1)) rfl rfl rfl rfl ?_
    refine x_isubN (pc := 28) rfl ((by omega)) ?_
    refine x_k (pc := 29) rfl rfl rfl ⟨Nat.le_of_ble_eq_true rfl, Nat.le_of_ble_eq_true rfl, Nat.le_of_ble_eq_true rfl⟩ rfl (k_119 (I := I1) (A := A1) (D := dD S) (m := cn - 1) (by rw [g1 50 (by decide)]; exact hM.2.1) hG (by omega) hl ((f1 61 (by decide)).trans h61) ?_)
    show mq 115 32 [some (.ref 67), some (.int (nI l)), some (.ref 69), some (.int (nI nn)), some (.int (nI p)), some (.int q), some (.int (nI N)), some (.int (nI cn)), none, none, none] [.int (nI (f (cn - 1)))] (hS n u I1 A1 J B mk sn L xs X) _
    refine x_is2 (pc := 32) (ml' := [some (.ref 67), some (.int (nI l)), some (.ref 69), some (.int (nI nn)), some (.int (nI p)), some (.int q), some (.int (nI N)), some (.int (nI cn)), some (.int (nI (f (cn - 1)))), none, none]) rfl rfl ?_
    refine x_const (pc := 34) (pc' := 35) (.int (nI 0)) rfl rfl rfl rfl ?_
    refine x_is2 (pc := 35) (ml' := [some (.ref 67), some (.int (nI l)), some (.ref 69), some (.int (nI nn)), some (.int (nI p)), some (.int q), some (.int (nI N)), some (.int (nI cn)), some (.int (nI (f (cn - 1)))), some (.int (nI 0)), none]) rfl rfl ?_
    refine l_115n_51 (I := I1) (A := A1) (r := r) hr h4 nn 0 (Nat.zero_add _) (fun i hi => absurd hi (Nat.not_lt_zero i)) (fun i hi => by rw [g1 51 (by decide)]; exact hT i hi) (fun A2 g2 b2 => ?_)
    refine x_al1 (pc := 58) rfl rfl ?_
    refine x_const (pc := 59) (pc' := 60) (.int (nI 0)) rfl rfl rfl rfl ?_
    refine p_67_13 (pc := 60) rfl rfl ?_
    refine x_il2 (pc := 63) rfl rfl ?_
    refine x_ifN_lt (pc := 65) (t := 90) rfl rfl (by omega) ?_
    refine x_al1 (pc := 68) rfl rfl ?_
    refine x_al1 (pc := 69) rfl rfl ?_
    refine x_il1 (pc := 70) rfl rfl ?_
    refine x_const (pc := 71) (pc' := 73) (.int (nI 15)) rfl rfl rfl rfl ?_
    refine x_const (pc := 73) (pc' := 74) (.int (nI 4)) rfl rfl rfl rfl ?_
    refine x_il1 (pc := 74) rfl rfl ?_
    refine x_isubN (pc := 75) rfl ((by omega)) ?_
    refine x_ishrV (pc := 76) (v := nI (2 ^ nn - 1)) rfl (mask15 h1 h4) ?_
    refine x_al1 (pc := 77) rfl rfl ?_
    refine x_il2 (pc := 78) rfl rfl ?_
    refine x_k (pc := 80) rfl rfl rfl ⟨Nat.le_of_ble_eq_true rfl, Nat.le_of_ble_eq_true rfl, Nat.le_of_ble_eq_true rfl⟩ rfl (mq_k (c_120 (I := va_up I1 68 (nI 0)) (A := A2) (D := dD S) (by rw [g2 50 (by decide), g1 50 (by decide)]; exact hM.2.1) (hG.1 _ (by omega)).1) ?_)
    show mq 115 83 [some (.ref 67), some (.int (nI l)), some (.ref 69), some (.int (nI nn)), some (.int (nI p)), some (.int q), some (.int (nI N)), some (.int (nI cn)), some (.int (nI (f (cn - 1)))), some (.int (nI nn)), none] [.int (nI (bB (dD S) (f (cn - 1)))), .int (nI (2 ^ nn - 1)), .int (nI nn), .ref 69, .ref 67] (hS n u (va_up I1 68 (nI 0)) A2 J B mk sn L xs X) _
    refine x_il2 (pc := 83) rfl rfl ?_
    refine x_il2 (pc := 85) rfl rfl ?_
    refine x_k (pc := 87) rfl rfl rfl ⟨Nat.le_of_ble_eq_true rfl, Nat.le_of_ble_eq_true rfl, Nat.le_of_ble_eq_true rfl⟩ rfl (k_127_51 (I := va_up I1 68 (nI 0)) (A := A2) (nn := nn) (m := 2 ^ nn - 1) (k0 := 0) (ba := nI (bB (dD S) (f (cn - 1)))) (p := nI p) (s := q) (g := gR (nmb N r)) (t := []) (mask_lt h4) h4 (by omega) (fun i hi => absurd hi (Nat.not_lt_zero i)) (mask_1 h1 h4) b2 ⟨rfl, fun j hj => absurd hj (Nat.not_lt_zero j)⟩ (by rw [List.length_nil]; omega) (fun I3 A3 f3 g3 h3 => ?_))
    show mq 115 90 [some (.ref 67), some (.int (nI l)), some (.ref 69), some (.int (nI nn)), some (.int (nI p)), some (.int q), some (.int (nI N)), some (.int (nI cn)), some (.int (nI (f (cn - 1)))), some (.int (nI nn)), none] [] (hS n u I3 A3 J B mk sn L xs X) _
    rw [kp_all (l := (nmb N r)) (by rw [hlr, hr]) h4, List.nil_append, ← ht] at h3
    refine x_il2 (pc := 90) rfl rfl ?_
    refine x_ifN_lt (pc := 92) (t := 112) rfl rfl (by omega) ?_
    refine x_al1 (pc := 95) rfl rfl ?_
    refine x_il2 (pc := 96) rfl rfl ?_
    refine x_k (pc := 98) rfl rfl rfl ⟨Nat.le_of_ble_eq_true rfl, Nat.le_of_ble_eq_true rfl, Nat.le_of_ble_eq_true rfl⟩ rfl (mq_k (c_123 (I := I3) (A := A3) (D := dD S) (by rw [g3 50 (by decide), g2 50 (by decide), g1 50 (by decide)]; exact hM.2.1) (hG.1 _ (by omega)).1) ?_)
    show mq 115 101 [some (.ref 67), some (.int (nI l)), some (.ref 69), some (.int (nI nn)), some (.int (nI p)), some (.int q), some (.int (nI N)), some (.int (nI cn)), some (.int (nI (f (cn - 1)))), some (.int (nI nn)), none] [.int (nI (mB (dD S) (f (cn - 1))))] (hS n u I3 A3 J B mk sn L xs X) _
    refine x_al1 (pc := 101) rfl rfl ?_
    refine g_67_13 (pc := 102) (v := nI ((t).length)) rfl rfl h3.1 ?_
    refine x_iaddN (pc := 105) (c := (mB (dD S) (f (cn - 1))) + ((t).length)) rfl rfl ?_
    refine x_const (pc := 106) (pc' := 109) (.int (nI 128)) rfl rfl rfl rfl ?_
    have hmb := mB_lt hbyt (f (cn - 1))
    refine x_cmpN_le (pc := 109) (t := 169) rfl rfl (by omega) (by omega) (fun c109 => ?_) (fun c109 => ?_)
    · omega
    · refine x_al1 (pc := 112) rfl rfl ?_
      refine x_k (pc := 113) rfl rfl rfl ⟨Nat.le_of_ble_eq_true rfl, Nat.le_of_ble_eq_true rfl, Nat.le_of_ble_eq_true rfl⟩ rfl (mq_k (c_131 (I := I3) (A := A3) (D := dD S) (by rw [g3 50 (by decide), g2 50 (by decide), g1 50 (by decide)]; exact hM.2.1)) ?_)
      show mq 115 116 [some (.ref 67), some (.int (nI l)), some (.ref 69), some (.int (nI nn)), some (.int (nI p)), some (.int q), some (.int (nI N)), some (.int (nI cn)), some (.int (nI (f (cn - 1)))), some (.int (nI nn)), none] [.int (frS (dD S) 16 0)] (hS n u I3 A3 J B mk sn L xs X) _
      refine x_top (y := (-1)) (hfr) ?_
      refine x_is2 (pc := 116) (ml' := [some (.ref 67), some (.int (nI l)), some (.ref 69), some (.int (nI nn)), some (.int (nI p)), some (.int q), some (.int (nI N)), some (.int (nI cn)), some (.int (-1)), some (.int (nI nn)), none]) rfl rfl ?_
      refine x_il2 (pc := 118) rfl rfl ?_
      refine x_if_ge (pc := 120) (t := 125) rfl rfl rfl (fun c => absurd c (by decide)) (fun _ => ?_)
      refine x_const (pc := 123) (pc' := 124) (.int (-1)) rfl rfl rfl rfl ?_
      refine x_ret (pc := 124) rfl rfl ?_
      exact kr _ _ (Fr_cons (Fr_u (Fr_cons (Fr_refl _ _) f1 (by decide)) (by decide)) f3 (by decide)) (Fr_cons (Fr_cons (Fr_cons (Fr_refl _ _) g1 (by decide)) g2 (by decide)) g3 (by decide)) (MB_fr b2 g3 (by decide))
  · refine x_const (pc := 19) (pc' := 20) (.int (-1)) rfl rfl rfl rfl ?_
    refine x_step (pc := 20) (pc' := 32) rfl rfl rfl rfl ?_
    refine x_is2 (pc := 32) (ml' := [some (.ref 67), some (.int (nI l)), some (.ref 69), some (.int (nI nn)), some (.int (nI p)), some (.int q), some (.int (nI N)), some (.int (nI cn)), some (.int (-1)), none, none]) rfl rfl ?_
    refine x_const (pc := 34) (pc' := 35) (.int (nI 0)) rfl rfl rfl rfl ?_
    refine x_is2 (pc := 35) (ml' := [some (.ref 67), some (.int (nI l)), some (.ref 69), some (.int (nI nn)), some (.int (nI p)), some (.int q), some (.int (nI N)), some (.int (nI cn)), some (.int (-1)), some (.int (nI 0)), none]) rfl rfl ?_
    refine l_115n_51 (I := I1) (A := A1) (r := r) hr h4 nn 0 (Nat.zero_add _) (fun i hi => absurd hi (Nat.not_lt_zero i)) (fun i hi => by rw [g1 51 (by decide)]; exact hT i hi) (fun A2 g2 b2 => ?_)
    refine x_al1 (pc := 58) rfl rfl ?_
    refine x_const (pc := 59) (pc' := 60) (.int (nI 0)) rfl rfl rfl rfl ?_
    refine p_67_13 (pc := 60) rfl rfl ?_
    refine x_il2 (pc := 63) rfl rfl ?_
    refine x_if_lt (pc := 65) (t := 90) rfl rfl rfl (fun _ => ?_) (fun c => absurd (by decide) c)
    refine x_il2 (pc := 90) rfl rfl ?_
    refine x_if_lt (pc := 92) (t := 112) rfl rfl rfl (fun _ => ?_) (fun c => absurd (by decide) c)
    refine x_al1 (pc := 112) rfl rfl ?_
    refine x_k (pc := 113) rfl rfl rfl ⟨Nat.le_of_ble_eq_true rfl, Nat.le_of_ble_eq_true rfl, Nat.le_of_ble_eq_true rfl⟩ rfl (mq_k (c_131 (I := va_up I1 68 (nI 0)) (A := A2) (D := dD S) (by rw [g2 50 (by decide), g1 50 (by decide)]; exact hM.2.1)) ?_)
    show mq 115 116 [some (.ref 67), some (.int (nI l)), some (.ref 69), some (.int (nI nn)), some (.int (nI p)), some (.int q), some (.int (nI N)), some (.int (nI cn)), some (.int (-1)), some (.int (nI nn)), none] [.int (frS (dD S) 16 0)] (hS n u (va_up I1 68 (nI 0)) A2 J B mk sn L xs X) _
    refine x_top (y := (-1)) (hfr) ?_
    refine x_is2 (pc := 116) (ml' := [some (.ref 67), some (.int (nI l)), some (.ref 69), some (.int (nI nn)), some (.int (nI p)), some (.int q), some (.int (nI N)), some (.int (nI cn)), some (.int (-1)), some (.int (nI nn)), none]) rfl rfl ?_
    refine x_il2 (pc := 118) rfl rfl ?_
    refine x_if_ge (pc := 120) (t := 125) rfl rfl rfl (fun c => absurd c (by decide)) (fun _ => ?_)
    refine x_const (pc := 123) (pc' := 124) (.int (-1)) rfl rfl rfl rfl ?_
    refine x_ret (pc := 124) rfl rfl ?_
    exact kr _ _ (Fr_u (Fr_cons (Fr_refl _ _) f1 (by decide)) (by decide)) (Fr_cons (Fr_cons (Fr_refl _ _) g1 (by decide)) g2 (by decide)) b2
set_option maxRecDepth 100000 in
set_option maxHeartbeats 4000000 in
theorem k_115b_51 {l p nn N cn : Nat} {f bc : Nat → Nat} {q : Int32} {r : List R5} {S : DS} (hM : mD S I A) (ho : dO S = false) (hl : l < 4) (hG : SG (dD S) l f cn) (hW : ∀ k, k < cn → WS (dD S) (f k) (bc (f k))) (hnx : nxO (dD S) f bc cn = nI N) (hNb : N + 4 < 2 ^ 31) (hr : r.length = nn) (h1 : 1 ≤ nn) (h4 : nn ≤ 4) (hp : p < 256) (hT : MT 51 A r) (hnf : cn = 0 ∨ 128 < mB (dD S) (f (cn - 1)) + (eBt (nI (bB (dD S) (f (cn - 1)))) (nI p) q (nmb N r)).length) {s : Nat} (hs : s < 16) (hfr : frS (dD S) 16 0 = nI s) {Q : mO × mHp → Prop} (kk : ∀ I' A', Fr [61, 62, 63, 64, 65, 66, 67, 68, 69, 70, 71] I I' → Fr [50, 52, 54, 55, 56, 51] A A' → mD (wrs S (hdW s l N :: apW s 8 (eBt (nI N) (nI p) q (nmb N r)))) I' A' → (dO (wrs S (hdW s l N :: apW s 8 (eBt (nI N) (nI p) q (nmb N r)))) = false → Fr [62, 63, 65, 66, 67, 68, 71] I I' ∧ Fr [50, 52, 54, 55, 51] A A' ∧ A' 55 = if p < 8 then knw (A 55) l p q nn (nI N) else A 55) → MB 51 A' (gR (nmb N r)) nn → Q (.inl (some (.int (nI N))), hS n u I' A' J B mk sn L xs X)) : mq 115 0 [some (.ref 67), some (.int (nI l)), some (.ref 69), some (.int (nI nn)), some (.int (nI p)), some (.int q), none, none, none, none, none] [] (hS n u I A J B mk sn L xs X) Q := by
  have h61 : I 61 = nI 0 := by
    rw [hM.1.1, ho]
    rfl
  have hbyt := hM.2.1.2.1
  have hcn16 := SG_le hG
  have hfs : 0 < cn → f (cn - 1) < 16 := fun q => (hG.1 _ (by omega)).1
  have hlr := nmb_len r N
  have hel := eBt_len (nI (bB (dD S) (f (cn - 1)))) (nI p) q (nmb N r)
  rw [nmb_len] at hel
  obtain ⟨t, ht⟩ : ∃ x, x = eBt (nI (bB (dD S) (f (cn - 1)))) (nI p) q (nmb N r) := ⟨_, rfl⟩
  have htb : ∀ i, gB0 t i < 256 := by
    rw [ht]
    exact gB0_by (eBt_by _ _ _ _)
  rw [← ht] at hnf hel
  have hel2 := eBt_len (nI N) (nI p) q (nmb N r)
  rw [nmb_len] at hel2
  obtain ⟨t2, ht2⟩ : ∃ x, x = eBt (nI N) (nI p) q (nmb N r) := ⟨_, rfl⟩
  have htb2 : ∀ i, gB0 t2 i < 256 := by
    rw [ht2]
    exact gB0_by (eBt_by _ _ _ _)
  rw [← ht2] at kk hel2
  refine x_al1 (pc := 0) rfl rfl ?_
  refine x_il1 (pc := 1) rfl rfl ?_
  refine x_k (pc := 2) rfl rfl rfl ⟨Nat.le_of_ble_eq_true rfl, Nat.le_of_ble_eq_true rfl, Nat.le_of_ble_eq_true rfl⟩ rfl (k_116u (I := I) (A := A) (D := dD S) (bc := bc) hM.2.1 hl hG hW h61 (fun I1 A1 f1 g1 => ?_))
  show mq 115 5 [some (.ref 67), some (.int (nI l)), some (.ref 69), some (.int (nI nn)), some (.int (nI p)), some (.int q), none, none, none, none, none] [.int (nxO (dD S) f bc cn)] (hS n u I1 A1 J B mk sn L xs X) _
  refine x_top (y := nI N) (hnx) ?_
  refine x_is2 (pc := 5) (ml' := [some (.ref 67), some (.int (nI l)), some (.ref 69), some (.int (nI nn)), some (.int (nI p)), some (.int q), some (.int (nI N)), none, none, none, none]) rfl rfl ?_
  refine x_al1 (pc := 7) rfl rfl ?_
  refine x_il1 (pc := 8) rfl rfl ?_
  refine x_k (pc := 9) rfl rfl rfl ⟨Nat.le_of_ble_eq_true rfl, Nat.le_of_ble_eq_true rfl, Nat.le_of_ble_eq_true rfl⟩ rfl (k_117 (I := I1) (A := A1) (D := dD S) (by rw [g1 50 (by decide)]; exact hM.2.1) hl ((f1 61 (by decide)).trans h61) ?_)
  show mq 115 12 [some (.ref 67), some (.int (nI l)), some (.ref 69), some (.int (nI nn)), some (.int (nI p)), some (.int q), some (.int (nI N)), none, none, none, none] [.int (nI (cS (ow (dD S) l) 16))] (hS n u I1 A1 J B mk sn L xs X) _
  refine x_top (y := nI cn) (congrArg nI (SG_n hG)) ?_
  refine x_is2 (pc := 12) (ml' := [some (.ref 67), some (.int (nI l)), some (.ref 69), some (.int (nI nn)), some (.int (nI p)), some (.int q), some (.int (nI N)), some (.int (nI cn)), none, none, none]) rfl rfl ?_
  refine x_il2 (pc := 14) rfl rfl ?_
  refine x_ifN_ne (pc := 16) (t := 23) rfl rfl (by omega) (fun c16 => ?_) (fun c16 => ?_)
  · refine x_al1 (pc := 23) rfl rfl ?_
    refine x_il1 (pc := 24) rfl rfl ?_
    refine x_il2 (pc := 25) rfl rfl ?_
    refine x_const (pc := 27) (pc' := 28) (.int (nI 1)) rfl rfl rfl rfl ?_
    refine x_isubN (pc := 28) rfl ((by omega)) ?_
    refine x_k (pc := 29) rfl rfl rfl ⟨Nat.le_of_ble_eq_true rfl, Nat.le_of_ble_eq_true rfl, Nat.le_of_ble_eq_true rfl⟩ rfl (k_119 (I := I1) (A := A1) (D := dD S) (m := cn - 1) (by rw [g1 50 (by decide)]; exact hM.2.1) hG (by omega) hl ((f1 61 (by decide)).trans h61) ?_)
    show mq 115 32 [some (.ref 67), some (.int (nI l)), some (.ref 69), some (.int (nI nn)), some (.int (nI p)), some (.int q), some (.int (nI N)), some (.int (nI cn)), none, none, none] [.int (nI (f (cn - 1)))] (hS n u I1 A1 J B mk sn L xs X) _
    refine x_is2 (pc := 32) (ml' := [some (.ref 67), some (.int (nI l)), some (.ref 69), some (.int (nI nn)), some (.int (nI p)), some (.int q), some (.int (nI N)), some (.int (nI cn)), some (.int (nI (f (cn - 1)))), none, none]) rfl rfl ?_
    refine x_const (pc := 34) (pc' := 35) (.int (nI 0)) rfl rfl rfl rfl ?_
    refine x_is2 (pc := 35) (ml' := [some (.ref 67), some (.int (nI l)), some (.ref 69), some (.int (nI nn)), some (.int (nI p)), some (.int q), some (.int (nI N)), some (.int (nI cn)), some (.int (nI (f (cn - 1)))), some (.int (nI 0)), none]) rfl rfl ?_
    refine l_115n_51 (I := I1) (A := A1) (r := r) hr h4 nn 0 (Nat.zero_add _) (fun i hi => absurd hi (Nat.not_lt_zero i)) (fun i hi => by rw [g1 51 (by decide)]; exact hT i hi) (fun A2 g2 b2 => ?_)
    refine x_al1 (pc := 58) rfl rfl ?_
    refine x_const (pc := 59) (pc' := 60) (.int (nI 0)) rfl rfl rfl rfl ?_
    refine p_67_13 (pc := 60) rfl rfl ?_
    refine x_il2 (pc := 63) rfl rfl ?_
    refine x_ifN_lt (pc := 65) (t := 90) rfl rfl (by omega) ?_
    refine x_al1 (pc := 68) rfl rfl ?_
    refine x_al1 (pc := 69) rfl rfl ?_
    refine x_il1 (pc := 70) rfl rfl ?_
    refine x_const (pc := 71) (pc' := 73) (.int (nI 15)) rfl rfl rfl rfl ?_
    refine x_const (pc := 73) (pc' := 74) (.int (nI 4)) rfl rfl rfl rfl ?_
    refine x_il1 (pc := 74) rfl rfl ?_
    refine x_isubN (pc := 75) rfl ((by omega)) ?_
    refine x_ishrV (pc := 76) (v := nI (2 ^ nn - 1)) rfl (mask15 h1 h4) ?_
    refine x_al1 (pc := 77) rfl rfl ?_
    refine x_il2 (pc := 78) rfl rfl ?_
    refine x_k (pc := 80) rfl rfl rfl ⟨Nat.le_of_ble_eq_true rfl, Nat.le_of_ble_eq_true rfl, Nat.le_of_ble_eq_true rfl⟩ rfl (mq_k (c_120 (I := va_up I1 68 (nI 0)) (A := A2) (D := dD S) (by rw [g2 50 (by decide), g1 50 (by decide)]; exact hM.2.1) (hG.1 _ (by omega)).1) ?_)
    show mq 115 83 [some (.ref 67), some (.int (nI l)), some (.ref 69), some (.int (nI nn)), some (.int (nI p)), some (.int q), some (.int (nI N)), some (.int (nI cn)), some (.int (nI (f (cn - 1)))), some (.int (nI nn)), none] [.int (nI (bB (dD S) (f (cn - 1)))), .int (nI (2 ^ nn - 1)), .int (nI nn), .ref 69, .ref 67] (hS n u (va_up I1 68 (nI 0)) A2 J B mk sn L xs X) _
    refine x_il2 (pc := 83) rfl rfl ?_
    refine x_il2 (pc := 85) rfl rfl ?_
    refine x_k (pc := 87) rfl rfl rfl ⟨Nat.le_of_ble_eq_true rfl, Nat.le_of_ble_eq_true rfl, Nat.le_of_ble_eq_true rfl⟩ rfl (k_127_51 (I := va_up I1 68 (nI 0)) (A := A2) (nn := nn) (m := 2 ^ nn - 1) (k0 := 0) (ba := nI (bB (dD S) (f (cn - 1)))) (p := nI p) (s := q) (g := gR (nmb N r)) (t := []) (mask_lt h4) h4 (by omega) (fun i hi => absurd hi (Nat.not_lt_zero i)) (mask_1 h1 h4) b2 ⟨rfl, fun j hj => absurd hj (Nat.not_lt_zero j)⟩ (by rw [List.length_nil]; omega) (fun I3 A3 f3 g3 h3 => ?_))
    show mq 115 90 [some (.ref 67), some (.int (nI l)), some (.ref 69), some (.int (nI nn)), some (.int (nI p)), some (.int q), some (.int (nI N)), some (.int (nI cn)), some (.int (nI (f (cn - 1)))), some (.int (nI nn)), none] [] (hS n u I3 A3 J B mk sn L xs X) _
    rw [kp_all (l := (nmb N r)) (by rw [hlr, hr]) h4, List.nil_append, ← ht] at h3
    refine x_il2 (pc := 90) rfl rfl ?_
    refine x_ifN_lt (pc := 92) (t := 112) rfl rfl (by omega) ?_
    refine x_al1 (pc := 95) rfl rfl ?_
    refine x_il2 (pc := 96) rfl rfl ?_
    refine x_k (pc := 98) rfl rfl rfl ⟨Nat.le_of_ble_eq_true rfl, Nat.le_of_ble_eq_true rfl, Nat.le_of_ble_eq_true rfl⟩ rfl (mq_k (c_123 (I := I3) (A := A3) (D := dD S) (by rw [g3 50 (by decide), g2 50 (by decide), g1 50 (by decide)]; exact hM.2.1) (hG.1 _ (by omega)).1) ?_)
    show mq 115 101 [some (.ref 67), some (.int (nI l)), some (.ref 69), some (.int (nI nn)), some (.int (nI p)), some (.int q), some (.int (nI N)), some (.int (nI cn)), some (.int (nI (f (cn - 1)))), some (.int (nI nn)), none] [.int (nI (mB (dD S) (f (cn - 1))))] (hS n u I3 A3 J B mk sn L xs X) _
    refine x_al1 (pc := 101) rfl rfl ?_
    refine g_67_13 (pc := 102) (v := nI ((t).length)) rfl rfl h3.1 ?_
    refine x_iaddN (pc := 105) (c := (mB (dD S) (f (cn - 1))) + ((t).length)) rfl rfl ?_
    refine x_const (pc := 106) (pc' := 109) (.int (nI 128)) rfl rfl rfl rfl ?_
    have hmb := mB_lt hbyt (f (cn - 1))
    refine x_cmpN_le (pc := 109) (t := 169) rfl rfl (by omega) (by omega) (fun c109 => ?_) (fun c109 => ?_)
    · omega
    · refine x_al1 (pc := 112) rfl rfl ?_
      refine x_k (pc := 113) rfl rfl rfl ⟨Nat.le_of_ble_eq_true rfl, Nat.le_of_ble_eq_true rfl, Nat.le_of_ble_eq_true rfl⟩ rfl (mq_k (c_131 (I := I3) (A := A3) (D := dD S) (by rw [g3 50 (by decide), g2 50 (by decide), g1 50 (by decide)]; exact hM.2.1)) ?_)
      show mq 115 116 [some (.ref 67), some (.int (nI l)), some (.ref 69), some (.int (nI nn)), some (.int (nI p)), some (.int q), some (.int (nI N)), some (.int (nI cn)), some (.int (nI (f (cn - 1)))), some (.int (nI nn)), none] [.int (frS (dD S) 16 0)] (hS n u I3 A3 J B mk sn L xs X) _
      refine x_top (y := nI s) (hfr) ?_
      refine x_is2 (pc := 116) (ml' := [some (.ref 67), some (.int (nI l)), some (.ref 69), some (.int (nI nn)), some (.int (nI p)), some (.int q), some (.int (nI N)), some (.int (nI cn)), some (.int (nI s)), some (.int (nI nn)), none]) rfl rfl ?_
      refine x_il2 (pc := 118) rfl rfl ?_
      refine x_ifN_ge (pc := 120) (t := 125) rfl rfl (by omega) ?_
      refine x_al1 (pc := 125) rfl rfl ?_
      refine x_const (pc := 126) (pc' := 128) (.int (nI 8)) rfl rfl rfl rfl ?_
      refine x_il1 (pc := 128) rfl rfl ?_
      refine x_const (pc := 129) (pc' := 130) (.int (nI 1)) rfl rfl rfl rfl ?_
      refine x_iaddN (pc := 130) (c := l + 1) rfl rfl ?_
      refine x_const (pc := 131) (pc' := 132) (.int (nI 0)) rfl rfl rfl rfl ?_
      refine x_il2 (pc := 132) rfl rfl ?_
      refine x_k (pc := 134) rfl rfl rfl ⟨Nat.le_of_ble_eq_true rfl, Nat.le_of_ble_eq_true rfl, Nat.le_of_ble_eq_true rfl⟩ rfl (k_132 (I := I3) (A := A3) (m := 8) (o := l + 1) (g := 0) (b := N) (by decide) (by omega) (fun I4 A4 f4 g4 h4t => ?_))
      show mq 115 137 [some (.ref 67), some (.int (nI l)), some (.ref 69), some (.int (nI nn)), some (.int (nI p)), some (.int q), some (.int (nI N)), some (.int (nI cn)), some (.int (nI s)), some (.int (nI nn)), none] [] (hS n u I4 A4 J B mk sn L xs X) _
      refine x_al1 (pc := 137) rfl rfl ?_
      refine x_il2 (pc := 138) rfl rfl ?_
      refine x_const (pc := 140) (pc' := 141) (.int (nI 0)) rfl rfl rfl rfl ?_
      refine x_const (pc := 141) (pc' := 143) (.int (nI 32)) rfl rfl rfl rfl ?_
      refine x_k (pc := 143) rfl rfl rfl ⟨Nat.le_of_ble_eq_true rfl, Nat.le_of_ble_eq_true rfl, Nat.le_of_ble_eq_true rfl⟩ rfl (k_133 (I := I4) (A := A4) (S := S) (s := s) (f := 0) (e := 32) (t := hdr 8 (l + 1) 0 N) (mD_fr hM (show Fr [65, 66, 67, 68, 71] I I4 from (Fr_cons (Fr_cons (Fr_u (Fr_cons (Fr_refl _ _) f1 (by decide)) (by decide)) f3 (by decide)) f4 (by decide))) (show Fr [52, 54, 51] A A4 from (Fr_cons (Fr_cons (Fr_cons (Fr_cons (Fr_refl _ _) g1 (by decide)) g2 (by decide)) g3 (by decide)) g4 (by decide))) (by decide) (by decide)) h4t (gB0_by (hdr_by _ _ _ _)) hs (by decide) (by decide) (show 8 ≤ 600 by decide) (fun I5 A5 f5 g5 h5 x5 => ?_))
      show mq 115 146 [some (.ref 67), some (.int (nI l)), some (.ref 69), some (.int (nI nn)), some (.int (nI p)), some (.int q), some (.int (nI N)), some (.int (nI cn)), some (.int (nI s)), some (.int (nI nn)), none] [] (hS n u I5 A5 J B mk sn L xs X) _
      rw [spW_hd] at h5 x5
      have F4 : Fr [65, 66, 67, 68, 71] I I4 := (Fr_cons (Fr_cons (Fr_u (Fr_cons (Fr_refl _ _) f1 (by decide)) (by decide)) f3 (by decide)) f4 (by decide))
      have G4 : Fr [52, 54, 51] A A4 := (Fr_cons (Fr_cons (Fr_cons (Fr_cons (Fr_refl _ _) g1 (by decide)) g2 (by decide)) g3 (by decide)) g4 (by decide))
      have b5 : MB 51 A5 (gR (nmb N r)) nn := MB_fr (MB_fr (MB_fr b2 g3 (by decide)) g4 (by decide)) g5 (by decide)
      refine x_al1 (pc := 146) rfl rfl ?_
      refine x_const (pc := 147) (pc' := 148) (.int (nI 0)) rfl rfl rfl rfl ?_
      refine p_67_13 (pc := 148) rfl rfl ?_
      refine x_al1 (pc := 151) rfl rfl ?_
      refine x_al1 (pc := 152) rfl rfl ?_
      refine x_il1 (pc := 153) rfl rfl ?_
      refine x_const (pc := 154) (pc' := 156) (.int (nI 15)) rfl rfl rfl rfl ?_
      refine x_const (pc := 156) (pc' := 157) (.int (nI 4)) rfl rfl rfl rfl ?_
      refine x_il1 (pc := 157) rfl rfl ?_
      refine x_isubN (pc := 158) rfl ((by omega)) ?_
      refine x_ishrV (pc := 159) (v := nI (2 ^ nn - 1)) rfl (mask15 h1 h4) ?_
      refine x_il2 (pc := 160) rfl rfl ?_
      refine x_il2 (pc := 162) rfl rfl ?_
      refine x_il2 (pc := 164) rfl rfl ?_
      refine x_k (pc := 166) rfl rfl rfl ⟨Nat.le_of_ble_eq_true rfl, Nat.le_of_ble_eq_true rfl, Nat.le_of_ble_eq_true rfl⟩ rfl (k_127_51 (I := va_up I5 68 (nI 0)) (A := A5) (nn := nn) (m := 2 ^ nn - 1) (k0 := 0) (ba := nI N) (p := nI p) (s := q) (g := gR (nmb N r)) (t := []) (mask_lt h4) h4 (by omega) (fun i hi => absurd hi (Nat.not_lt_zero i)) (mask_1 h1 h4) b5 ⟨rfl, fun j hj => absurd hj (Nat.not_lt_zero j)⟩ (by rw [List.length_nil]; omega) (fun I6 A6 f6 g6 h6 => ?_))
      show mq 115 169 [some (.ref 67), some (.int (nI l)), some (.ref 69), some (.int (nI nn)), some (.int (nI p)), some (.int q), some (.int (nI N)), some (.int (nI cn)), some (.int (nI s)), some (.int (nI nn)), none] [] (hS n u I6 A6 J B mk sn L xs X) _
      rw [kp_all (l := (nmb N r)) (by rw [hlr, hr]) h4, List.nil_append, ← ht2] at h6
      have M6 : mD (wr1 S (hdW s l N)) I6 A6 := mD_fr (mD_fr h5 (Fr_up I5 68 (nI 0)) (Fr_refl [] A5) (by decide) (by decide)) f6 g6 (by decide) (by decide)
      have F6 : Fr [61, 62, 63, 64, 65, 66, 67, 68, 69, 70, 71] I I6 := Fr_cons (Fr_u (Fr_cons (Fr_cons (Fr_refl _ I) F4 (by decide)) f5 (by decide)) (by decide)) f6 (by decide)
      have G6 : Fr [50, 52, 54, 55, 56, 51] A A6 := Fr_cons (Fr_cons (Fr_cons (Fr_refl _ A) G4 (by decide)) g5 (by decide)) g6 (by decide)
      have x6 : dO (wr1 S (hdW s l N)) = false → Fr [62, 63, 65, 66, 67, 68, 71] I I6 ∧ Fr [50, 52, 54, 55, 51] A A6 := fun q => ⟨Fr_cons (Fr_u (Fr_cons (Fr_cons (Fr_refl _ I) F4 (by decide)) (x5 q).1 (by decide)) (by decide)) f6 (by decide), Fr_cons (Fr_cons (Fr_cons (Fr_refl _ A) G4 (by decide)) (x5 q).2 (by decide)) g6 (by decide)⟩
      have ev : wrs S (hdW s l N :: apW s 8 (t2)) = wrs (wr1 S (hdW s l N)) (apW s 8 t2) := rfl
      by_cases o6 : dO (wr1 S (hdW s l N)) = true
      · have h661 : I6 61 = nI 1 := by
          rw [M6.1.1, o6]
          rfl
        refine x_al1 (pc := 169) rfl rfl ?_
        refine g_67_2 (pc := 170) (v := nI 1) rfl rfl h661 ?_
        refine x_ifN_eq (pc := 173) (t := 179) rfl rfl (by decide) (fun c => absurd c (by decide)) (fun _ => ?_)
        refine x_il2 (pc := 176) rfl rfl ?_
        refine x_ret (pc := 178) rfl rfl ?_
        exact kk I6 A6 F6 G6 (by rw [ev, wrs_off _ o6]; exact M6) (fun q => absurd (ev ▸ q) (by rw [wrs_off _ o6, o6]; decide)) (MB_fr b5 g6 (by decide))
      · have o6f := ne_true o6
        have h661 : I6 61 = nI 0 := by
          rw [M6.1.1, o6f]
          rfl
        have hb8 := hd_D o6f (by omega)
        refine x_al1 (pc := 169) rfl rfl ?_
        refine g_67_2 (pc := 170) (v := nI 0) rfl rfl h661 ?_
        refine x_ifN_eq (pc := 173) (t := 179) rfl rfl (by decide) (fun _ => ?_) (fun c => absurd c (by decide))
        refine l_115t_51 (t := t2) M6 h6 htb2 hs (by rw [hb8.1]; omega) hl h4 hp (fun I8 A8 f8 g8 h8 x8 => ?_)
        rw [hb8.1, ← ev] at h8 x8
        exact kk I8 A8 (Fr_cons F6 f8 (by decide)) (Fr_cons G6 g8 (by decide)) h8 (fun q => ⟨Fr_cons (x6 o6f).1 (x8 q).1 (by decide), Fr_cons (x6 o6f).2 (x8 q).2.1 (by decide), by rw [← show A6 55 = A 55 by rw [g6 55 (by decide), (x5 o6f).2 55 (by decide), G4 55 (by decide)]]; exact (x8 q).2.2⟩) (MB_fr (MB_fr b5 g6 (by decide)) g8 (by decide))
  · refine x_const (pc := 19) (pc' := 20) (.int (-1)) rfl rfl rfl rfl ?_
    refine x_step (pc := 20) (pc' := 32) rfl rfl rfl rfl ?_
    refine x_is2 (pc := 32) (ml' := [some (.ref 67), some (.int (nI l)), some (.ref 69), some (.int (nI nn)), some (.int (nI p)), some (.int q), some (.int (nI N)), some (.int (nI cn)), some (.int (-1)), none, none]) rfl rfl ?_
    refine x_const (pc := 34) (pc' := 35) (.int (nI 0)) rfl rfl rfl rfl ?_
    refine x_is2 (pc := 35) (ml' := [some (.ref 67), some (.int (nI l)), some (.ref 69), some (.int (nI nn)), some (.int (nI p)), some (.int q), some (.int (nI N)), some (.int (nI cn)), some (.int (-1)), some (.int (nI 0)), none]) rfl rfl ?_
    refine l_115n_51 (I := I1) (A := A1) (r := r) hr h4 nn 0 (Nat.zero_add _) (fun i hi => absurd hi (Nat.not_lt_zero i)) (fun i hi => by rw [g1 51 (by decide)]; exact hT i hi) (fun A2 g2 b2 => ?_)
    refine x_al1 (pc := 58) rfl rfl ?_
    refine x_const (pc := 59) (pc' := 60) (.int (nI 0)) rfl rfl rfl rfl ?_
    refine p_67_13 (pc := 60) rfl rfl ?_
    refine x_il2 (pc := 63) rfl rfl ?_
    refine x_if_lt (pc := 65) (t := 90) rfl rfl rfl (fun _ => ?_) (fun c => absurd (by decide) c)
    refine x_il2 (pc := 90) rfl rfl ?_
    refine x_if_lt (pc := 92) (t := 112) rfl rfl rfl (fun _ => ?_) (fun c => absurd (by decide) c)
    refine x_al1 (pc := 112) rfl rfl ?_
    refine x_k (pc := 113) rfl rfl rfl ⟨Nat.le_of_ble_eq_true rfl, Nat.le_of_ble_eq_true rfl, Nat.le_of_ble_eq_true rfl⟩ rfl (mq_k (c_131 (I := va_up I1 68 (nI 0)) (A := A2) (D := dD S) (by rw [g2 50 (by decide), g1 50 (by decide)]; exact hM.2.1)) ?_)
    show mq 115 116 [some (.ref 67), some (.int (nI l)), some (.ref 69), some (.int (nI nn)), some (.int (nI p)), some (.int q), some (.int (nI N)), some (.int (nI cn)), some (.int (-1)), some (.int (nI nn)), none] [.int (frS (dD S) 16 0)] (hS n u (va_up I1 68 (nI 0)) A2 J B mk sn L xs X) _
    refine x_top (y := nI s) (hfr) ?_
    refine x_is2 (pc := 116) (ml' := [some (.ref 67), some (.int (nI l)), some (.ref 69), some (.int (nI nn)), some (.int (nI p)), some (.int q), some (.int (nI N)), some (.int (nI cn)), some (.int (nI s)), some (.int (nI nn)), none]) rfl rfl ?_
    refine x_il2 (pc := 118) rfl rfl ?_
    refine x_ifN_ge (pc := 120) (t := 125) rfl rfl (by omega) ?_
    refine x_al1 (pc := 125) rfl rfl ?_
    refine x_const (pc := 126) (pc' := 128) (.int (nI 8)) rfl rfl rfl rfl ?_
    refine x_il1 (pc := 128) rfl rfl ?_
    refine x_const (pc := 129) (pc' := 130) (.int (nI 1)) rfl rfl rfl rfl ?_
    refine x_iaddN (pc := 130) (c := l + 1) rfl rfl ?_
    refine x_const (pc := 131) (pc' := 132) (.int (nI 0)) rfl rfl rfl rfl ?_
    refine x_il2 (pc := 132) rfl rfl ?_
    refine x_k (pc := 134) rfl rfl rfl ⟨Nat.le_of_ble_eq_true rfl, Nat.le_of_ble_eq_true rfl, Nat.le_of_ble_eq_true rfl⟩ rfl (k_132 (I := va_up I1 68 (nI 0)) (A := A2) (m := 8) (o := l + 1) (g := 0) (b := N) (by decide) (by omega) (fun I4 A4 f4 g4 h4t => ?_))
    show mq 115 137 [some (.ref 67), some (.int (nI l)), some (.ref 69), some (.int (nI nn)), some (.int (nI p)), some (.int q), some (.int (nI N)), some (.int (nI cn)), some (.int (nI s)), some (.int (nI nn)), none] [] (hS n u I4 A4 J B mk sn L xs X) _
    refine x_al1 (pc := 137) rfl rfl ?_
    refine x_il2 (pc := 138) rfl rfl ?_
    refine x_const (pc := 140) (pc' := 141) (.int (nI 0)) rfl rfl rfl rfl ?_
    refine x_const (pc := 141) (pc' := 143) (.int (nI 32)) rfl rfl rfl rfl ?_
    refine x_k (pc := 143) rfl rfl rfl ⟨Nat.le_of_ble_eq_true rfl, Nat.le_of_ble_eq_true rfl, Nat.le_of_ble_eq_true rfl⟩ rfl (k_133 (I := I4) (A := A4) (S := S) (s := s) (f := 0) (e := 32) (t := hdr 8 (l + 1) 0 N) (mD_fr hM (show Fr [65, 66, 67, 68, 71] I I4 from (Fr_cons (Fr_u (Fr_cons (Fr_refl _ _) f1 (by decide)) (by decide)) f4 (by decide))) (show Fr [52, 54, 51] A A4 from (Fr_cons (Fr_cons (Fr_cons (Fr_refl _ _) g1 (by decide)) g2 (by decide)) g4 (by decide))) (by decide) (by decide)) h4t (gB0_by (hdr_by _ _ _ _)) hs (by decide) (by decide) (show 8 ≤ 600 by decide) (fun I5 A5 f5 g5 h5 x5 => ?_))
    show mq 115 146 [some (.ref 67), some (.int (nI l)), some (.ref 69), some (.int (nI nn)), some (.int (nI p)), some (.int q), some (.int (nI N)), some (.int (nI cn)), some (.int (nI s)), some (.int (nI nn)), none] [] (hS n u I5 A5 J B mk sn L xs X) _
    rw [spW_hd] at h5 x5
    have F4 : Fr [65, 66, 67, 68, 71] I I4 := (Fr_cons (Fr_u (Fr_cons (Fr_refl _ _) f1 (by decide)) (by decide)) f4 (by decide))
    have G4 : Fr [52, 54, 51] A A4 := (Fr_cons (Fr_cons (Fr_cons (Fr_refl _ _) g1 (by decide)) g2 (by decide)) g4 (by decide))
    have b5 : MB 51 A5 (gR (nmb N r)) nn := MB_fr (MB_fr b2 g4 (by decide)) g5 (by decide)
    refine x_al1 (pc := 146) rfl rfl ?_
    refine x_const (pc := 147) (pc' := 148) (.int (nI 0)) rfl rfl rfl rfl ?_
    refine p_67_13 (pc := 148) rfl rfl ?_
    refine x_al1 (pc := 151) rfl rfl ?_
    refine x_al1 (pc := 152) rfl rfl ?_
    refine x_il1 (pc := 153) rfl rfl ?_
    refine x_const (pc := 154) (pc' := 156) (.int (nI 15)) rfl rfl rfl rfl ?_
    refine x_const (pc := 156) (pc' := 157) (.int (nI 4)) rfl rfl rfl rfl ?_
    refine x_il1 (pc := 157) rfl rfl ?_
    refine x_isubN (pc := 158) rfl ((by omega)) ?_
    refine x_ishrV (pc := 159) (v := nI (2 ^ nn - 1)) rfl (mask15 h1 h4) ?_
    refine x_il2 (pc := 160) rfl rfl ?_
    refine x_il2 (pc := 162) rfl rfl ?_
    refine x_il2 (pc := 164) rfl rfl ?_
    refine x_k (pc := 166) rfl rfl rfl ⟨Nat.le_of_ble_eq_true rfl, Nat.le_of_ble_eq_true rfl, Nat.le_of_ble_eq_true rfl⟩ rfl (k_127_51 (I := va_up I5 68 (nI 0)) (A := A5) (nn := nn) (m := 2 ^ nn - 1) (k0 := 0) (ba := nI N) (p := nI p) (s := q) (g := gR (nmb N r)) (t := []) (mask_lt h4) h4 (by omega) (fun i hi => absurd hi (Nat.not_lt_zero i)) (mask_1 h1 h4) b5 ⟨rfl, fun j hj => absurd hj (Nat.not_lt_zero j)⟩ (by rw [List.length_nil]; omega) (fun I6 A6 f6 g6 h6 => ?_))
    show mq 115 169 [some (.ref 67), some (.int (nI l)), some (.ref 69), some (.int (nI nn)), some (.int (nI p)), some (.int q), some (.int (nI N)), some (.int (nI cn)), some (.int (nI s)), some (.int (nI nn)), none] [] (hS n u I6 A6 J B mk sn L xs X) _
    rw [kp_all (l := (nmb N r)) (by rw [hlr, hr]) h4, List.nil_append, ← ht2] at h6
    have M6 : mD (wr1 S (hdW s l N)) I6 A6 := mD_fr (mD_fr h5 (Fr_up I5 68 (nI 0)) (Fr_refl [] A5) (by decide) (by decide)) f6 g6 (by decide) (by decide)
    have F6 : Fr [61, 62, 63, 64, 65, 66, 67, 68, 69, 70, 71] I I6 := Fr_cons (Fr_u (Fr_cons (Fr_cons (Fr_refl _ I) F4 (by decide)) f5 (by decide)) (by decide)) f6 (by decide)
    have G6 : Fr [50, 52, 54, 55, 56, 51] A A6 := Fr_cons (Fr_cons (Fr_cons (Fr_refl _ A) G4 (by decide)) g5 (by decide)) g6 (by decide)
    have x6 : dO (wr1 S (hdW s l N)) = false → Fr [62, 63, 65, 66, 67, 68, 71] I I6 ∧ Fr [50, 52, 54, 55, 51] A A6 := fun q => ⟨Fr_cons (Fr_u (Fr_cons (Fr_cons (Fr_refl _ I) F4 (by decide)) (x5 q).1 (by decide)) (by decide)) f6 (by decide), Fr_cons (Fr_cons (Fr_cons (Fr_refl _ A) G4 (by decide)) (x5 q).2 (by decide)) g6 (by decide)⟩
    have ev : wrs S (hdW s l N :: apW s 8 (t2)) = wrs (wr1 S (hdW s l N)) (apW s 8 t2) := rfl
    by_cases o6 : dO (wr1 S (hdW s l N)) = true
    · have h661 : I6 61 = nI 1 := by
        rw [M6.1.1, o6]
        rfl
      refine x_al1 (pc := 169) rfl rfl ?_
      refine g_67_2 (pc := 170) (v := nI 1) rfl rfl h661 ?_
      refine x_ifN_eq (pc := 173) (t := 179) rfl rfl (by decide) (fun c => absurd c (by decide)) (fun _ => ?_)
      refine x_il2 (pc := 176) rfl rfl ?_
      refine x_ret (pc := 178) rfl rfl ?_
      exact kk I6 A6 F6 G6 (by rw [ev, wrs_off _ o6]; exact M6) (fun q => absurd (ev ▸ q) (by rw [wrs_off _ o6, o6]; decide)) (MB_fr b5 g6 (by decide))
    · have o6f := ne_true o6
      have h661 : I6 61 = nI 0 := by
        rw [M6.1.1, o6f]
        rfl
      have hb8 := hd_D o6f (by omega)
      refine x_al1 (pc := 169) rfl rfl ?_
      refine g_67_2 (pc := 170) (v := nI 0) rfl rfl h661 ?_
      refine x_ifN_eq (pc := 173) (t := 179) rfl rfl (by decide) (fun _ => ?_) (fun c => absurd c (by decide))
      refine l_115t_51 (t := t2) M6 h6 htb2 hs (by rw [hb8.1]; omega) hl h4 hp (fun I8 A8 f8 g8 h8 x8 => ?_)
      rw [hb8.1, ← ev] at h8 x8
      exact kk I8 A8 (Fr_cons F6 f8 (by decide)) (Fr_cons G6 g8 (by decide)) h8 (fun q => ⟨Fr_cons (x6 o6f).1 (x8 q).1 (by decide), Fr_cons (x6 o6f).2 (x8 q).2.1 (by decide), by rw [← show A6 55 = A 55 by rw [g6 55 (by decide), (x5 o6f).2 55 (by decide), G4 55 (by decide)]]; exact (x8 q).2.2⟩) (MB_fr (MB_fr b5 g6 (by decide)) g8 (by decide))
set_option maxRecDepth 100000 in
set_option maxHeartbeats 4000000 in
theorem k_115_51 {l p nn N cn : Nat} {f bc : Nat → Nat} {q : Int32} {r : List R5} {S : DS} (hM : mD S I A) (ho : dO S = false) (hl : l < 4) (hG : SG (dD S) l f cn) (hW : ∀ k, k < cn → WS (dD S) (f k) (bc (f k))) (hnx : nxO (dD S) f bc cn = nI N) (hNb : N + 4 < 2 ^ 31) (hr : r.length = nn) (h1 : 1 ≤ nn) (h4 : nn ≤ 4) (hp : p < 256) (hT : MT 51 A r) {Q : mO × mHp → Prop} (kk : ∀ S' f' cn', apS S l f cn N (nI p) q (nmb N r) = some (S', f', cn') → ∀ I' A', Fr [61, 62, 63, 64, 65, 66, 67, 68, 69, 70, 71] I I' → Fr [50, 52, 54, 55, 56, 51] A A' → mD S' I' A' → (dO (S') = false → Fr [62, 63, 65, 66, 67, 68, 71] I I' ∧ Fr [50, 52, 54, 55, 51] A A' ∧ A' 55 = if p < 8 then knw (A 55) l p q nn (nI N) else A 55) → MB 51 A' (gR (nmb N r)) nn → Q (.inl (some (.int (nI N))), hS n u I' A' J B mk sn L xs X)) (kr : apS S l f cn N (nI p) q (nmb N r) = none → ∀ I' A', Fr [65, 66, 67, 68, 71] I I' → Fr [52, 54, 51] A A' → MB 51 A' (gR (nmb N r)) nn → Q (.inl (some (.int (-1))), hS n u I' A' J B mk sn L xs X)) : mq 115 0 [some (.ref 67), some (.int (nI l)), some (.ref 69), some (.int (nI nn)), some (.int (nI p)), some (.int q), none, none, none, none, none] [] (hS n u I A J B mk sn L xs X) Q := by
  by_cases hfit : 0 < cn ∧ mB (dD S) (f (cn - 1)) + (eBt (nI (bB (dD S) (f (cn - 1)))) (nI p) q (nmb N r)).length ≤ 128
  · have e : apS S l f cn N (nI p) q (nmb N r) = some (_, f, cn) := if_pos hfit
    exact k_115a_51 hM ho hl hG hW hnx hNb hr h1 h4 hp hT hfit.1 hfit.2 (fun I1 A1 f1 g1 h1 x1 b1 => kk _ _ _ e I1 A1 f1 g1 h1 x1 b1)
  · have hnf : cn = 0 ∨ 128 < mB (dD S) (f (cn - 1)) + (eBt (nI (bB (dD S) (f (cn - 1)))) (nI p) q (nmb N r)).length := by
      by_cases h0 : cn = 0
      · exact Or.inl h0
      · exact Or.inr (Nat.lt_of_not_le (fun q => hfit ⟨Nat.pos_of_ne_zero h0, q⟩))
    by_cases hfr : frS (dD S) 16 0 = -1
    · have e : apS S l f cn N (nI p) q (nmb N r) = none := (if_neg hfit).trans (if_pos hfr)
      exact k_115c_51 hM ho hl hG hW hnx hNb hr h1 h4 hp hT hnf hfr (fun I1 A1 f1 g1 b1 => kr e I1 A1 f1 g1 b1)
    · have e : apS S l f cn N (nI p) q (nmb N r) = some (_, _, cn + 1) := (if_neg hfit).trans (if_neg hfr)
      rcases frN_spec (dD S) 16 0 with h5 | h5
      · exact absurd h5.1 hfr
      · exact k_115b_51 hM ho hl hG hW hnx hNb hr h1 h4 hp hT hnf (by omega) h5.1 (fun I1 A1 f1 g1 h1 x1 b1 => kk _ _ _ e I1 A1 f1 g1 h1 x1 b1)
set_option maxRecDepth 100000 in
set_option maxHeartbeats 4000000 in
theorem l_115n_53 {l p nn N cn : Nat} {q w8 : Int32} {r : List R5} (hr : r.length = nn) (h4 : nn ≤ 4) {Q : mO × mHp → Prop} : ∀ (z k : Nat) {A : Nat → Nat → Int32}, (k + z = nn) → (∀ i, i < k → A 53 i = nI (N + i)) → (MT 53 A r) → (∀ A', Fr [53] A A' → MB 53 A' (gR (nmb N r)) nn → mq 115 58 [some (.ref 67), some (.int (nI l)), some (.ref 71), some (.int (nI nn)), some (.int (nI p)), some (.int q), some (.int (nI N)), some (.int (nI cn)), some (.int w8), some (.int (nI nn)), none] [] (hS n u I A' J B mk sn L xs X) Q) → mq 115 37 [some (.ref 67), some (.int (nI l)), some (.ref 71), some (.int (nI nn)), some (.int (nI p)), some (.int q), some (.int (nI N)), some (.int (nI cn)), some (.int w8), some (.int (nI k)), none] [] (hS n u I A J B mk sn L xs X) Q := by
  intro z
  induction z with
  | zero =>
    intro k A hz hk hT kk
    refine x_il2 (pc := 37) rfl rfl ?_
    refine x_il1 (pc := 39) rfl rfl ?_
    refine x_cmpN_ge (pc := 40) (t := 58) rfl rfl (by omega) (by omega) (fun c40 => ?_) (fun c40 => ?_)
    · rw [show k = nn by omega]
      refine kk A (Fr_refl _ _) (fun i hi => ?_)
      rw [gR_nmb r N i (by omega)]
      exact ⟨hk i (by omega), hT i (by omega)⟩
    · omega
  | succ z ih =>
    intro k A hz hk hT kk
    refine x_il2 (pc := 37) rfl rfl ?_
    refine x_il1 (pc := 39) rfl rfl ?_
    refine x_cmpN_ge (pc := 40) (t := 58) rfl rfl (by omega) (by omega) (fun c40 => ?_) (fun c40 => ?_)
    · omega
    · refine x_al1 (pc := 43) rfl rfl ?_
      refine x_il2 (pc := 44) rfl rfl ?_
      refine x_il2 (pc := 46) rfl rfl ?_
      refine x_il2 (pc := 48) rfl rfl ?_
      refine x_iaddN (pc := 50) (c := N + k) rfl rfl ?_
      refine as_71 (pc := 51) (q := k) rfl rfl (by omega) ?_
      refine x_iincN (pc := 52) (c := 1) (ml' := [some (.ref 67), some (.int (nI l)), some (.ref 71), some (.int (nI nn)), some (.int (nI p)), some (.int q), some (.int (nI N)), some (.int (nI cn)), some (.int w8), some (.int (nI (k + 1))), none]) rfl rfl rfl rfl ?_
      refine x_step (pc := 55) (pc' := 37) rfl rfl rfl rfl ?_
      refine ih (k + 1) (A := va_up A 53 (upd (A 53) k (nI (N + k)))) (by omega) (fun i hi => ?_) (fun i hi => ?_) (fun A9 g9 h9 => kk A9 (Fr_cons (Fr_u (Fr_refl _ _) (by decide)) g9 (by decide)) h9)
      · by_cases h5 : i = k
        · subst h5
          exact pk_us
        · exact (pk_un h5).trans (hk i (by omega))
      · have h6 := hT i hi
        exact ⟨(pk_un (by omega)).trans h6.1, (pk_un (by omega)).trans h6.2.1, (pk_un (by omega)).trans h6.2.2.1, (pk_un (by omega)).trans h6.2.2.2⟩
set_option maxRecDepth 100000 in
set_option maxHeartbeats 4000000 in
theorem l_115t_53 {l p nn N s : Nat} {q : Int32} {w7 w9 w10 : Option Value} {t : List Nat} {S : DS} (hM : mD S I A) (hT : Tp I A t) (hb : ∀ i, gB0 t i < 256) (hs : s < 16) (hfit : mB (dD S) s + t.length ≤ 128) (hl : l < 4) (hnn : nn ≤ 4) (hp : p < 256) {Q : mO × mHp → Prop} (kk : ∀ I' A', Fr [61, 62, 63, 64, 65, 66, 67, 68, 69, 70, 71] I I' → Fr [50, 52, 54, 55, 56] A A' → mD (wrs S (apW s (mB (dD S) s) t)) I' A' → (dO (wrs S (apW s (mB (dD S) s) t)) = false → Fr [62, 63, 65, 66, 67, 68, 71] I I' ∧ Fr [50, 52, 54, 55, 53] A A' ∧ A' 55 = if p < 8 then knw (A 55) l p q nn (nI N) else A 55) → Q (.inl (some (.int (nI N))), hS n u I' A' J B mk sn L xs X)) : mq 115 179 [some (.ref 67), some (.int (nI l)), some (.ref 71), some (.int (nI nn)), some (.int (nI p)), some (.int q), some (.int (nI N)), w7, some (.int (nI s)), w9, w10] [] (hS n u I A J B mk sn L xs X) Q := by
  refine x_al1 (pc := 179) rfl rfl ?_
  refine x_il2 (pc := 180) rfl rfl ?_
  refine x_k (pc := 182) rfl rfl rfl ⟨Nat.le_of_ble_eq_true rfl, Nat.le_of_ble_eq_true rfl, Nat.le_of_ble_eq_true rfl⟩ rfl (mq_k (c_123 (D := dD S) hM.2.1 hs) ?_)
  show mq 115 185 [some (.ref 67), some (.int (nI l)), some (.ref 71), some (.int (nI nn)), some (.int (nI p)), some (.int q), some (.int (nI N)), w7, some (.int (nI s)), w9, w10] [.int (nI (mB (dD S) s))] (hS n u I A J B mk sn L xs X) _
  refine x_is2 (pc := 185) (ml' := [some (.ref 67), some (.int (nI l)), some (.ref 71), some (.int (nI nn)), some (.int (nI p)), some (.int q), some (.int (nI N)), w7, some (.int (nI s)), some (.int (nI (mB (dD S) s))), w10]) rfl rfl ?_
  refine x_il2 (pc := 187) rfl rfl ?_
  refine x_al1 (pc := 189) rfl rfl ?_
  refine g_67_13 (pc := 190) (v := nI t.length) rfl rfl hT.1 ?_
  refine x_iaddN (pc := 193) (c := (mB (dD S) s) + t.length) rfl rfl ?_
  refine x_is2 (pc := 194) (ml' := [some (.ref 67), some (.int (nI l)), some (.ref 71), some (.int (nI nn)), some (.int (nI p)), some (.int q), some (.int (nI N)), w7, some (.int (nI s)), some (.int (nI (mB (dD S) s))), some (.int (nI ((mB (dD S) s) + t.length)))]) rfl rfl ?_
  refine x_al1 (pc := 196) rfl rfl ?_
  refine x_il2 (pc := 197) rfl rfl ?_
  refine x_il2 (pc := 199) rfl rfl ?_
  refine x_il2 (pc := 201) rfl rfl ?_
  refine x_k (pc := 203) rfl rfl rfl ⟨Nat.le_of_ble_eq_true rfl, Nat.le_of_ble_eq_true rfl, Nat.le_of_ble_eq_true rfl⟩ rfl (k_133 (I := I) (A := A) (S := S) (s := s) (f := mB (dD S) s) (e := (mB (dD S) s + t.length)) (t := t) hM hT hb hs hfit (by omega) (by omega) (fun I1 A1 f1 g1 h1 x1 => ?_))
  show mq 115 206 [some (.ref 67), some (.int (nI l)), some (.ref 71), some (.int (nI nn)), some (.int (nI p)), some (.int q), some (.int (nI N)), w7, some (.int (nI s)), some (.int (nI (mB (dD S) s))), some (.int (nI ((mB (dD S) s) + t.length)))] [] (hS n u I1 A1 J B mk sn L xs X) _
  have ev : wrs S (apW s (mB (dD S) s) t) = wr1 (wrs S (spW s (mB (dD S) s) (mB (dD S) s + t.length) t 4 (mB (dD S) s))) (mkW s (mB (dD S) s + t.length)) := by
    unfold apW
    rw [wrs_app]
    rfl
  refine x_al1 (pc := 206) rfl rfl ?_
  refine x_k (pc := 207) rfl rfl rfl ⟨Nat.le_of_ble_eq_true rfl, Nat.le_of_ble_eq_true rfl, Nat.le_of_ble_eq_true rfl⟩ rfl (k_134 (I := I1) (A := A1) (mkW s (mB (dD S) s + t.length)) h1 (fun o2 o0 e2 I2 f2 h2 => ?_) (fun o2 I2 A2 f2 g2 h2 => ?_))
  · have h61 : I2 61 = nI 0 := by
      rw [h2.1, o2]
      rfl
    show mq 115 210 [some (.ref 67), some (.int (nI l)), some (.ref 71), some (.int (nI nn)), some (.int (nI p)), some (.int q), some (.int (nI N)), w7, some (.int (nI s)), some (.int (nI (mB (dD S) s))), some (.int (nI ((mB (dD S) s) + t.length)))] [.int (nI 1)] (hS n u I2 A1 J B mk sn L xs X) _
    refine x_ifN_eq (pc := 210) (t := 248) rfl rfl (by decide) (fun c => absurd c (by decide)) (fun _ => ?_)
    refine x_al1 (pc := 213) rfl rfl ?_
    refine g_67_1 (pc := 214) rfl rfl ?_
    refine x_const (pc := 217) (pc' := 220) (.int (nI 128)) rfl rfl rfl rfl ?_
    refine x_il2 (pc := 220) rfl rfl ?_
    refine x_imulN (pc := 222) (c := 128 * s) rfl rfl ?_
    refine x_il2 (pc := 223) rfl rfl ?_
    refine x_const (pc := 225) (pc' := 227) (.int (nI 8)) rfl rfl rfl rfl ?_
    refine x_ishrV (pc := 227) (v := nI ((mB (dD S) s + t.length) / 2 ^ 8)) rfl (pk_shrN (by omega) _ 8 (by decide)) ?_
    refine x_top (y := nI ((mB (dD S) s + t.length) / 2 ^ 8 % 256)) (congrArg nI (by omega)) ?_
    refine as_68 (pc := 228) (q := 128 * s) rfl rfl (by omega) ?_
    refine x_al1 (pc := 229) rfl rfl ?_
    refine g_67_1 (pc := 230) rfl rfl ?_
    refine x_const (pc := 233) (pc' := 236) (.int (nI 128)) rfl rfl rfl rfl ?_
    refine x_il2 (pc := 236) rfl rfl ?_
    refine x_imulN (pc := 238) (c := 128 * s) rfl rfl ?_
    refine x_const (pc := 239) (pc' := 240) (.int (nI 1)) rfl rfl rfl rfl ?_
    refine x_iaddN (pc := 240) (c := (128 * s) + 1) rfl rfl ?_
    refine x_il2 (pc := 241) rfl rfl ?_
    refine x_const (pc := 243) (pc' := 246) (.int (nI 255)) rfl rfl rfl rfl ?_
    refine x_iandV (pc := 246) (v := nI ((mB (dD S) s + t.length) % 2 ^ 8)) rfl (pk_andN (by omega) 8 (by decide)) ?_
    refine x_top (y := nI ((mB (dD S) s + t.length) / 2 ^ 0 % 256)) (congrArg nI (by omega)) ?_
    refine as_68 (pc := 247) (q := (128 * s) + 1) rfl rfl (by omega) ?_
    refine x_al1 (pc := 248) rfl rfl ?_
    refine g_67_2 (pc := 249) (v := nI 0) rfl rfl h61 ?_
    refine x_ifN_ne (pc := 252) (t := 274) rfl rfl (by decide) (fun c => absurd c (by decide)) (fun _ => ?_)
    refine x_il2 (pc := 255) rfl rfl ?_
    refine x_const (pc := 257) (pc' := 259) (.int (nI 8)) rfl rfl rfl rfl ?_
    refine x_cmpN_ge (pc := 259) (t := 274) rfl rfl (by omega) (by omega) (fun c259 => ?_) (fun c259 => ?_)
    · refine x_il2 (pc := 274) rfl rfl ?_
      refine x_ret (pc := 276) rfl rfl ?_
      have h3 : mD (wrs S (apW s (mB (dD S) s) t)) I2 (va_up (va_up A1 50 (upd (A1 50) (128 * s) (nI ((mB (dD S) s + t.length) / 2 ^ 8 % 256)))) 50 (upd (upd (A1 50) (128 * s) (nI ((mB (dD S) s + t.length) / 2 ^ 8 % 256))) ((128 * s) + 1) (nI ((mB (dD S) s + t.length) / 2 ^ 0 % 256)))) := by
        rw [ev]
        refine ⟨h2, ?_, fun q => Bool.noConfusion (o2.symm.trans q)⟩
        rw [e2]
        have d0 := DK_put (j := 0) (g := gB0 [(mB (dD S) s + t.length) / 2 ^ 8 % 256, (mB (dD S) s + t.length) / 2 ^ 0 % 256]) (p := 128 * s) (by rw [dW_0]; exact h1.2.1) (gB0_by (by simp; omega) 0) (by omega)
        exact DK_put (j := 1) (g := gB0 [(mB (dD S) s + t.length) / 2 ^ 8 % 256, (mB (dD S) s + t.length) / 2 ^ 0 % 256]) (p := 128 * s) d0 (gB0_by (by simp; omega) 1) (by omega)
      refine kk _ _ (Fr_cons (Fr_cons (Fr_refl _ _) f1 (by decide)) f2 (by decide)) (Fr_u (Fr_u (Fr_cons (Fr_refl _ _) g1 (by decide)) (by decide)) (by decide)) h3 (fun _ => ⟨Fr_cons (Fr_cons (Fr_refl _ I) (x1 (wr1_D o2).1).1 (by decide)) f2 (by decide), Fr_u (Fr_u (Fr_cons (Fr_refl _ A) (x1 (wr1_D o2).1).2 (by decide)) (by decide)) (by decide), ?_⟩)
      rw [if_neg (by omega)]
      exact (x1 (wr1_D o2).1).2 55 (by decide)
    · refine x_al1 (pc := 262) rfl rfl ?_
      refine x_il1 (pc := 263) rfl rfl ?_
      refine x_il2 (pc := 264) rfl rfl ?_
      refine x_il2 (pc := 266) rfl rfl ?_
      refine x_il1 (pc := 268) rfl rfl ?_
      refine x_il2 (pc := 269) rfl rfl ?_
      refine x_k (pc := 271) rfl rfl rfl ⟨Nat.le_of_ble_eq_true rfl, Nat.le_of_ble_eq_true rfl, Nat.le_of_ble_eq_true rfl⟩ rfl (k_136 (I := I2) (A := va_up (va_up A1 50 (upd (A1 50) (128 * s) (nI ((mB (dD S) s + t.length) / 2 ^ 8 % 256)))) 50 (upd (upd (A1 50) (128 * s) (nI ((mB (dD S) s + t.length) / 2 ^ 8 % 256))) ((128 * s) + 1) (nI ((mB (dD S) s + t.length) / 2 ^ 0 % 256)))) (l := l) (p := p) (m := nn) (q := q) (o := nI N) hl (by omega) (fun A4 g4 h4 => ?_))
      show mq 115 274 [some (.ref 67), some (.int (nI l)), some (.ref 71), some (.int (nI nn)), some (.int (nI p)), some (.int q), some (.int (nI N)), w7, some (.int (nI s)), some (.int (nI (mB (dD S) s))), some (.int (nI ((mB (dD S) s) + t.length)))] [] (hS n u I2 A4 J B mk sn L xs X) _
      refine x_il2 (pc := 274) rfl rfl ?_
      refine x_ret (pc := 276) rfl rfl ?_
      have h3 : mD (wrs S (apW s (mB (dD S) s) t)) I2 (va_up (va_up A1 50 (upd (A1 50) (128 * s) (nI ((mB (dD S) s + t.length) / 2 ^ 8 % 256)))) 50 (upd (upd (A1 50) (128 * s) (nI ((mB (dD S) s + t.length) / 2 ^ 8 % 256))) ((128 * s) + 1) (nI ((mB (dD S) s + t.length) / 2 ^ 0 % 256)))) := by
        rw [ev]
        refine ⟨h2, ?_, fun q => Bool.noConfusion (o2.symm.trans q)⟩
        rw [e2]
        have d0 := DK_put (j := 0) (g := gB0 [(mB (dD S) s + t.length) / 2 ^ 8 % 256, (mB (dD S) s + t.length) / 2 ^ 0 % 256]) (p := 128 * s) (by rw [dW_0]; exact h1.2.1) (gB0_by (by simp; omega) 0) (by omega)
        exact DK_put (j := 1) (g := gB0 [(mB (dD S) s + t.length) / 2 ^ 8 % 256, (mB (dD S) s + t.length) / 2 ^ 0 % 256]) (p := 128 * s) d0 (gB0_by (by simp; omega) 1) (by omega)
      refine kk _ _ (Fr_cons (Fr_cons (Fr_refl _ _) f1 (by decide)) f2 (by decide)) (Fr_cons (Fr_u (Fr_u (Fr_cons (Fr_refl _ _) g1 (by decide)) (by decide)) (by decide)) g4 (by decide)) ⟨h3.1, ?_, fun q => absurd (ev ▸ q) (by rw [o2]; decide)⟩ (fun _ => ⟨Fr_cons (Fr_cons (Fr_refl _ I) (x1 (wr1_D o2).1).1 (by decide)) f2 (by decide), Fr_cons (Fr_u (Fr_u (Fr_cons (Fr_refl _ A) (x1 (wr1_D o2).1).2 (by decide)) (by decide)) (by decide)) g4 (by decide), ?_⟩)
      · rw [g4 50 (by decide)]
        exact h3.2.1
      · rw [if_pos (by omega), h4, show (va_up (va_up A1 50 (upd (A1 50) (128 * s) (nI ((mB (dD S) s + t.length) / 2 ^ 8 % 256)))) 50 (upd (upd (A1 50) (128 * s) (nI ((mB (dD S) s + t.length) / 2 ^ 8 % 256))) ((128 * s) + 1) (nI ((mB (dD S) s + t.length) / 2 ^ 0 % 256)))) 55 = A1 55 from rfl, (x1 (wr1_D o2).1).2 55 (by decide)]
  · have h61 : I2 61 = nI 1 := by
      rw [h2.1.1, o2]
      rfl
    show mq 115 210 [some (.ref 67), some (.int (nI l)), some (.ref 71), some (.int (nI nn)), some (.int (nI p)), some (.int q), some (.int (nI N)), w7, some (.int (nI s)), some (.int (nI (mB (dD S) s))), some (.int (nI ((mB (dD S) s) + t.length)))] [.int (nI 0)] (hS n u I2 A2 J B mk sn L xs X) _
    refine x_ifN_eq (pc := 210) (t := 248) rfl rfl (by decide) (fun _ => ?_) (fun c => absurd c (by decide))
    refine x_al1 (pc := 248) rfl rfl ?_
    refine g_67_2 (pc := 249) (v := nI 1) rfl rfl h61 ?_
    refine x_ifN_ne (pc := 252) (t := 274) rfl rfl (by decide) (fun _ => ?_) (fun c => absurd c (by decide))
    refine x_il2 (pc := 274) rfl rfl ?_
    refine x_ret (pc := 276) rfl rfl ?_
    refine kk _ _ (Fr_cons (Fr_cons (Fr_refl _ _) f1 (by decide)) f2 (by decide)) (Fr_cons (Fr_cons (Fr_refl _ _) g1 (by decide)) g2 (by decide)) (by rw [ev]; exact h2) (fun q => absurd (ev ▸ q) (by rw [o2]; decide))
set_option maxRecDepth 100000 in
set_option maxHeartbeats 4000000 in
theorem k_115a_53 {l p nn N cn : Nat} {f bc : Nat → Nat} {q : Int32} {r : List R5} {S : DS} (hM : mD S I A) (ho : dO S = false) (hl : l < 4) (hG : SG (dD S) l f cn) (hW : ∀ k, k < cn → WS (dD S) (f k) (bc (f k))) (hnx : nxO (dD S) f bc cn = nI N) (hNb : N + 4 < 2 ^ 31) (hr : r.length = nn) (h1 : 1 ≤ nn) (h4 : nn ≤ 4) (hp : p < 256) (hT : MT 53 A r) (hcp : 0 < cn) (hfit : mB (dD S) (f (cn - 1)) + (eBt (nI (bB (dD S) (f (cn - 1)))) (nI p) q (nmb N r)).length ≤ 128) {Q : mO × mHp → Prop} (kk : ∀ I' A', Fr [61, 62, 63, 64, 65, 66, 67, 68, 69, 70, 71] I I' → Fr [50, 52, 54, 55, 56, 53] A A' → mD (wrs S (apW (f (cn - 1)) (mB (dD S) (f (cn - 1))) (eBt (nI (bB (dD S) (f (cn - 1)))) (nI p) q (nmb N r)))) I' A' → (dO (wrs S (apW (f (cn - 1)) (mB (dD S) (f (cn - 1))) (eBt (nI (bB (dD S) (f (cn - 1)))) (nI p) q (nmb N r)))) = false → Fr [62, 63, 65, 66, 67, 68, 71] I I' ∧ Fr [50, 52, 54, 55, 53] A A' ∧ A' 55 = if p < 8 then knw (A 55) l p q nn (nI N) else A 55) → MB 53 A' (gR (nmb N r)) nn → Q (.inl (some (.int (nI N))), hS n u I' A' J B mk sn L xs X)) : mq 115 0 [some (.ref 67), some (.int (nI l)), some (.ref 71), some (.int (nI nn)), some (.int (nI p)), some (.int q), none, none, none, none, none] [] (hS n u I A J B mk sn L xs X) Q := by
  have h61 : I 61 = nI 0 := by
    rw [hM.1.1, ho]
    rfl
  have hbyt := hM.2.1.2.1
  have hcn16 := SG_le hG
  have hfs : 0 < cn → f (cn - 1) < 16 := fun q => (hG.1 _ (by omega)).1
  have hlr := nmb_len r N
  have hel := eBt_len (nI (bB (dD S) (f (cn - 1)))) (nI p) q (nmb N r)
  rw [nmb_len] at hel
  obtain ⟨t, ht⟩ : ∃ x, x = eBt (nI (bB (dD S) (f (cn - 1)))) (nI p) q (nmb N r) := ⟨_, rfl⟩
  have htb : ∀ i, gB0 t i < 256 := by
    rw [ht]
    exact gB0_by (eBt_by _ _ _ _)
  rw [← ht] at hfit kk hel
  refine x_al1 (pc := 0) rfl rfl ?_
  refine x_il1 (pc := 1) rfl rfl ?_
  refine x_k (pc := 2) rfl rfl rfl ⟨Nat.le_of_ble_eq_true rfl, Nat.le_of_ble_eq_true rfl, Nat.le_of_ble_eq_true rfl⟩ rfl (k_116u (I := I) (A := A) (D := dD S) (bc := bc) hM.2.1 hl hG hW h61 (fun I1 A1 f1 g1 => ?_))
  show mq 115 5 [some (.ref 67), some (.int (nI l)), some (.ref 71), some (.int (nI nn)), some (.int (nI p)), some (.int q), none, none, none, none, none] [.int (nxO (dD S) f bc cn)] (hS n u I1 A1 J B mk sn L xs X) _
  refine x_top (y := nI N) (hnx) ?_
  refine x_is2 (pc := 5) (ml' := [some (.ref 67), some (.int (nI l)), some (.ref 71), some (.int (nI nn)), some (.int (nI p)), some (.int q), some (.int (nI N)), none, none, none, none]) rfl rfl ?_
  refine x_al1 (pc := 7) rfl rfl ?_
  refine x_il1 (pc := 8) rfl rfl ?_
  refine x_k (pc := 9) rfl rfl rfl ⟨Nat.le_of_ble_eq_true rfl, Nat.le_of_ble_eq_true rfl, Nat.le_of_ble_eq_true rfl⟩ rfl (k_117 (I := I1) (A := A1) (D := dD S) (by rw [g1 50 (by decide)]; exact hM.2.1) hl ((f1 61 (by decide)).trans h61) ?_)
  show mq 115 12 [some (.ref 67), some (.int (nI l)), some (.ref 71), some (.int (nI nn)), some (.int (nI p)), some (.int q), some (.int (nI N)), none, none, none, none] [.int (nI (cS (ow (dD S) l) 16))] (hS n u I1 A1 J B mk sn L xs X) _
  refine x_top (y := nI cn) (congrArg nI (SG_n hG)) ?_
  refine x_is2 (pc := 12) (ml' := [some (.ref 67), some (.int (nI l)), some (.ref 71), some (.int (nI nn)), some (.int (nI p)), some (.int q), some (.int (nI N)), some (.int (nI cn)), none, none, none]) rfl rfl ?_
  refine x_il2 (pc := 14) rfl rfl ?_
  refine x_ifN_ne (pc := 16) (t := 23) rfl rfl (by omega) (fun c16 => ?_) (fun c16 => ?_)
  · refine x_al1 (pc := 23) rfl rfl ?_
    refine x_il1 (pc := 24) rfl rfl ?_
    refine x_il2 (pc := 25) rfl rfl ?_
    refine x_const (pc := 27) (pc' := 28) (.int (nI 1)) rfl rfl rfl rfl ?_
    refine x_isubN (pc := 28) rfl ((by omega)) ?_
    refine x_k (pc := 29) rfl rfl rfl ⟨Nat.le_of_ble_eq_true rfl, Nat.le_of_ble_eq_true rfl, Nat.le_of_ble_eq_true rfl⟩ rfl (k_119 (I := I1) (A := A1) (D := dD S) (m := cn - 1) (by rw [g1 50 (by decide)]; exact hM.2.1) hG (by omega) hl ((f1 61 (by decide)).trans h61) ?_)
    show mq 115 32 [some (.ref 67), some (.int (nI l)), some (.ref 71), some (.int (nI nn)), some (.int (nI p)), some (.int q), some (.int (nI N)), some (.int (nI cn)), none, none, none] [.int (nI (f (cn - 1)))] (hS n u I1 A1 J B mk sn L xs X) _
    refine x_is2 (pc := 32) (ml' := [some (.ref 67), some (.int (nI l)), some (.ref 71), some (.int (nI nn)), some (.int (nI p)), some (.int q), some (.int (nI N)), some (.int (nI cn)), some (.int (nI (f (cn - 1)))), none, none]) rfl rfl ?_
    refine x_const (pc := 34) (pc' := 35) (.int (nI 0)) rfl rfl rfl rfl ?_
    refine x_is2 (pc := 35) (ml' := [some (.ref 67), some (.int (nI l)), some (.ref 71), some (.int (nI nn)), some (.int (nI p)), some (.int q), some (.int (nI N)), some (.int (nI cn)), some (.int (nI (f (cn - 1)))), some (.int (nI 0)), none]) rfl rfl ?_
    refine l_115n_53 (I := I1) (A := A1) (r := r) hr h4 nn 0 (Nat.zero_add _) (fun i hi => absurd hi (Nat.not_lt_zero i)) (fun i hi => by rw [g1 53 (by decide)]; exact hT i hi) (fun A2 g2 b2 => ?_)
    refine x_al1 (pc := 58) rfl rfl ?_
    refine x_const (pc := 59) (pc' := 60) (.int (nI 0)) rfl rfl rfl rfl ?_
    refine p_67_13 (pc := 60) rfl rfl ?_
    refine x_il2 (pc := 63) rfl rfl ?_
    refine x_ifN_lt (pc := 65) (t := 90) rfl rfl (by omega) ?_
    refine x_al1 (pc := 68) rfl rfl ?_
    refine x_al1 (pc := 69) rfl rfl ?_
    refine x_il1 (pc := 70) rfl rfl ?_
    refine x_const (pc := 71) (pc' := 73) (.int (nI 15)) rfl rfl rfl rfl ?_
    refine x_const (pc := 73) (pc' := 74) (.int (nI 4)) rfl rfl rfl rfl ?_
    refine x_il1 (pc := 74) rfl rfl ?_
    refine x_isubN (pc := 75) rfl ((by omega)) ?_
    refine x_ishrV (pc := 76) (v := nI (2 ^ nn - 1)) rfl (mask15 h1 h4) ?_
    refine x_al1 (pc := 77) rfl rfl ?_
    refine x_il2 (pc := 78) rfl rfl ?_
    refine x_k (pc := 80) rfl rfl rfl ⟨Nat.le_of_ble_eq_true rfl, Nat.le_of_ble_eq_true rfl, Nat.le_of_ble_eq_true rfl⟩ rfl (mq_k (c_120 (I := va_up I1 68 (nI 0)) (A := A2) (D := dD S) (by rw [g2 50 (by decide), g1 50 (by decide)]; exact hM.2.1) (hG.1 _ (by omega)).1) ?_)
    show mq 115 83 [some (.ref 67), some (.int (nI l)), some (.ref 71), some (.int (nI nn)), some (.int (nI p)), some (.int q), some (.int (nI N)), some (.int (nI cn)), some (.int (nI (f (cn - 1)))), some (.int (nI nn)), none] [.int (nI (bB (dD S) (f (cn - 1)))), .int (nI (2 ^ nn - 1)), .int (nI nn), .ref 71, .ref 67] (hS n u (va_up I1 68 (nI 0)) A2 J B mk sn L xs X) _
    refine x_il2 (pc := 83) rfl rfl ?_
    refine x_il2 (pc := 85) rfl rfl ?_
    refine x_k (pc := 87) rfl rfl rfl ⟨Nat.le_of_ble_eq_true rfl, Nat.le_of_ble_eq_true rfl, Nat.le_of_ble_eq_true rfl⟩ rfl (k_127_53 (I := va_up I1 68 (nI 0)) (A := A2) (nn := nn) (m := 2 ^ nn - 1) (k0 := 0) (ba := nI (bB (dD S) (f (cn - 1)))) (p := nI p) (s := q) (g := gR (nmb N r)) (t := []) (mask_lt h4) h4 (by omega) (fun i hi => absurd hi (Nat.not_lt_zero i)) (mask_1 h1 h4) b2 ⟨rfl, fun j hj => absurd hj (Nat.not_lt_zero j)⟩ (by rw [List.length_nil]; omega) (fun I3 A3 f3 g3 h3 => ?_))
    show mq 115 90 [some (.ref 67), some (.int (nI l)), some (.ref 71), some (.int (nI nn)), some (.int (nI p)), some (.int q), some (.int (nI N)), some (.int (nI cn)), some (.int (nI (f (cn - 1)))), some (.int (nI nn)), none] [] (hS n u I3 A3 J B mk sn L xs X) _
    rw [kp_all (l := (nmb N r)) (by rw [hlr, hr]) h4, List.nil_append, ← ht] at h3
    refine x_il2 (pc := 90) rfl rfl ?_
    refine x_ifN_lt (pc := 92) (t := 112) rfl rfl (by omega) ?_
    refine x_al1 (pc := 95) rfl rfl ?_
    refine x_il2 (pc := 96) rfl rfl ?_
    refine x_k (pc := 98) rfl rfl rfl ⟨Nat.le_of_ble_eq_true rfl, Nat.le_of_ble_eq_true rfl, Nat.le_of_ble_eq_true rfl⟩ rfl (mq_k (c_123 (I := I3) (A := A3) (D := dD S) (by rw [g3 50 (by decide), g2 50 (by decide), g1 50 (by decide)]; exact hM.2.1) (hG.1 _ (by omega)).1) ?_)
    show mq 115 101 [some (.ref 67), some (.int (nI l)), some (.ref 71), some (.int (nI nn)), some (.int (nI p)), some (.int q), some (.int (nI N)), some (.int (nI cn)), some (.int (nI (f (cn - 1)))), some (.int (nI nn)), none] [.int (nI (mB (dD S) (f (cn - 1))))] (hS n u I3 A3 J B mk sn L xs X) _
    refine x_al1 (pc := 101) rfl rfl ?_
    refine g_67_13 (pc := 102) (v := nI ((t).length)) rfl rfl h3.1 ?_
    refine x_iaddN (pc := 105) (c := (mB (dD S) (f (cn - 1))) + ((t).length)) rfl rfl ?_
    refine x_const (pc := 106) (pc' := 109) (.int (nI 128)) rfl rfl rfl rfl ?_
    have hmb := mB_lt hbyt (f (cn - 1))
    refine x_cmpN_le (pc := 109) (t := 169) rfl rfl (by omega) (by omega) (fun c109 => ?_) (fun c109 => ?_)
    · refine x_al1 (pc := 169) rfl rfl ?_
      refine g_67_2 (pc := 170) (v := nI 0) rfl rfl ((f3 61 (by decide)).trans ((f1 61 (by decide)).trans h61)) ?_
      refine x_ifN_eq (pc := 173) (t := 179) rfl rfl (by decide) (fun _ => ?_) (fun c => absurd c (by decide))
      have F : Fr [65, 66, 67, 68, 71] I I3 := (Fr_cons (Fr_u (Fr_cons (Fr_refl _ _) f1 (by decide)) (by decide)) f3 (by decide))
      have G : Fr [52, 54, 53] A A3 := (Fr_cons (Fr_cons (Fr_cons (Fr_refl _ _) g1 (by decide)) g2 (by decide)) g3 (by decide))
      exact l_115t_53 (t := t) (mD_fr hM F G (by decide) (by decide)) h3 htb (hG.1 _ (by omega)).1 hfit hl h4 hp (fun I8 A8 f8 g8 h8 x8 => kk I8 A8 (Fr_cons (Fr_cons (Fr_refl _ I) F (by decide)) f8 (by decide)) (Fr_cons (Fr_cons (Fr_refl _ A) G (by decide)) g8 (by decide)) h8 (fun q => ⟨Fr_cons (Fr_cons (Fr_refl _ I) F (by decide)) (x8 q).1 (by decide), Fr_cons (Fr_cons (Fr_refl _ A) G (by decide)) (x8 q).2.1 (by decide), by rw [← G 55 (by decide)]; exact (x8 q).2.2⟩) (MB_fr (MB_fr b2 g3 (by decide)) g8 (by decide)))
    · omega
  · omega
set_option maxRecDepth 100000 in
set_option maxHeartbeats 4000000 in
theorem k_115c_53 {l p nn N cn : Nat} {f bc : Nat → Nat} {q : Int32} {r : List R5} {S : DS} (hM : mD S I A) (ho : dO S = false) (hl : l < 4) (hG : SG (dD S) l f cn) (hW : ∀ k, k < cn → WS (dD S) (f k) (bc (f k))) (hnx : nxO (dD S) f bc cn = nI N) (hNb : N + 4 < 2 ^ 31) (hr : r.length = nn) (h1 : 1 ≤ nn) (h4 : nn ≤ 4) (hp : p < 256) (hT : MT 53 A r) (hnf : cn = 0 ∨ 128 < mB (dD S) (f (cn - 1)) + (eBt (nI (bB (dD S) (f (cn - 1)))) (nI p) q (nmb N r)).length) (hfr : frS (dD S) 16 0 = -1) {Q : mO × mHp → Prop} (kr : ∀ I' A', Fr [65, 66, 67, 68, 71] I I' → Fr [52, 54, 53] A A' → MB 53 A' (gR (nmb N r)) nn → Q (.inl (some (.int (-1))), hS n u I' A' J B mk sn L xs X)) : mq 115 0 [some (.ref 67), some (.int (nI l)), some (.ref 71), some (.int (nI nn)), some (.int (nI p)), some (.int q), none, none, none, none, none] [] (hS n u I A J B mk sn L xs X) Q := by
  have h61 : I 61 = nI 0 := by
    rw [hM.1.1, ho]
    rfl
  have hbyt := hM.2.1.2.1
  have hcn16 := SG_le hG
  have hfs : 0 < cn → f (cn - 1) < 16 := fun q => (hG.1 _ (by omega)).1
  have hlr := nmb_len r N
  have hel := eBt_len (nI (bB (dD S) (f (cn - 1)))) (nI p) q (nmb N r)
  rw [nmb_len] at hel
  obtain ⟨t, ht⟩ : ∃ x, x = eBt (nI (bB (dD S) (f (cn - 1)))) (nI p) q (nmb N r) := ⟨_, rfl⟩
  have htb : ∀ i, gB0 t i < 256 := by
    rw [ht]
    exact gB0_by (eBt_by _ _ _ _)
  rw [← ht] at hnf hel
  refine x_al1 (pc := 0) rfl rfl ?_
  refine x_il1 (pc := 1) rfl rfl ?_
  refine x_k (pc := 2) rfl rfl rfl ⟨Nat.le_of_ble_eq_true rfl, Nat.le_of_ble_eq_true rfl, Nat.le_of_ble_eq_true rfl⟩ rfl (k_116u (I := I) (A := A) (D := dD S) (bc := bc) hM.2.1 hl hG hW h61 (fun I1 A1 f1 g1 => ?_))
  show mq 115 5 [some (.ref 67), some (.int (nI l)), some (.ref 71), some (.int (nI nn)), some (.int (nI p)), some (.int q), none, none, none, none, none] [.int (nxO (dD S) f bc cn)] (hS n u I1 A1 J B mk sn L xs X) _
  refine x_top (y := nI N) (hnx) ?_
  refine x_is2 (pc := 5) (ml' := [some (.ref 67), some (.int (nI l)), some (.ref 71), some (.int (nI nn)), some (.int (nI p)), some (.int q), some (.int (nI N)), none, none, none, none]) rfl rfl ?_
  refine x_al1 (pc := 7) rfl rfl ?_
  refine x_il1 (pc := 8) rfl rfl ?_
  refine x_k (pc := 9) rfl rfl rfl ⟨Nat.le_of_ble_eq_true rfl, Nat.le_of_ble_eq_true rfl, Nat.le_of_ble_eq_true rfl⟩ rfl (k_117 (I := I1) (A := A1) (D := dD S) (by rw [g1 50 (by decide)]; exact hM.2.1) hl ((f1 61 (by decide)).trans h61) ?_)
  show mq 115 12 [some (.ref 67), some (.int (nI l)), some (.ref 71), some (.int (nI nn)), some (.int (nI p)), some (.int q), some (.int (nI N)), none, none, none, none] [.int (nI (cS (ow (dD S) l) 16))] (hS n u I1 A1 J B mk sn L xs X) _
  refine x_top (y := nI cn) (congrArg nI (SG_n hG)) ?_
  refine x_is2 (pc := 12) (ml' := [some (.ref 67), some (.int (nI l)), some (.ref 71), some (.int (nI nn)), some (.int (nI p)), some (.int q), some (.int (nI N)), some (.int (nI cn)), none, none, none]) rfl rfl ?_
  refine x_il2 (pc := 14) rfl rfl ?_
  refine x_ifN_ne (pc := 16) (t := 23) rfl rfl (by omega) (fun c16 => ?_) (fun c16 => ?_)
  · refine x_al1 (pc := 23) rfl rfl ?_
    refine x_il1 (pc := 24) rfl rfl ?_
    refine x_il2 (pc := 25) rfl rfl ?_
    refine x_const (pc := 27) (pc' := 28) (.int (nI 1)) rfl rfl rfl rfl ?_
    refine x_isubN (pc := 28) rfl ((by omega)) ?_
    refine x_k (pc := 29) rfl rfl rfl ⟨Nat.le_of_ble_eq_true rfl, Nat.le_of_ble_eq_true rfl, Nat.le_of_ble_eq_true rfl⟩ rfl (k_119 (I := I1) (A := A1) (D := dD S) (m := cn - 1) (by rw [g1 50 (by decide)]; exact hM.2.1) hG (by omega) hl ((f1 61 (by decide)).trans h61) ?_)
    show mq 115 32 [some (.ref 67), some (.int (nI l)), some (.ref 71), some (.int (nI nn)), some (.int (nI p)), some (.int q), some (.int (nI N)), some (.int (nI cn)), none, none, none] [.int (nI (f (cn - 1)))] (hS n u I1 A1 J B mk sn L xs X) _
    refine x_is2 (pc := 32) (ml' := [some (.ref 67), some (.int (nI l)), some (.ref 71), some (.int (nI nn)), some (.int (nI p)), some (.int q), some (.int (nI N)), some (.int (nI cn)), some (.int (nI (f (cn - 1)))), none, none]) rfl rfl ?_
    refine x_const (pc := 34) (pc' := 35) (.int (nI 0)) rfl rfl rfl rfl ?_
    refine x_is2 (pc := 35) (ml' := [some (.ref 67), some (.int (nI l)), some (.ref 71), some (.int (nI nn)), some (.int (nI p)), some (.int q), some (.int (nI N)), some (.int (nI cn)), some (.int (nI (f (cn - 1)))), some (.int (nI 0)), none]) rfl rfl ?_
    refine l_115n_53 (I := I1) (A := A1) (r := r) hr h4 nn 0 (Nat.zero_add _) (fun i hi => absurd hi (Nat.not_lt_zero i)) (fun i hi => by rw [g1 53 (by decide)]; exact hT i hi) (fun A2 g2 b2 => ?_)
    refine x_al1 (pc := 58) rfl rfl ?_
    refine x_const (pc := 59) (pc' := 60) (.int (nI 0)) rfl rfl rfl rfl ?_
    refine p_67_13 (pc := 60) rfl rfl ?_
    refine x_il2 (pc := 63) rfl rfl ?_
    refine x_ifN_lt (pc := 65) (t := 90) rfl rfl (by omega) ?_
    refine x_al1 (pc := 68) rfl rfl ?_
    refine x_al1 (pc := 69) rfl rfl ?_
    refine x_il1 (pc := 70) rfl rfl ?_
    refine x_const (pc := 71) (pc' := 73) (.int (nI 15)) rfl rfl rfl rfl ?_
    refine x_const (pc := 73) (pc' := 74) (.int (nI 4)) rfl rfl rfl rfl ?_
    refine x_il1 (pc := 74) rfl rfl ?_
    refine x_isubN (pc := 75) rfl ((by omega)) ?_
    refine x_ishrV (pc := 76) (v := nI (2 ^ nn - 1)) rfl (mask15 h1 h4) ?_
    refine x_al1 (pc := 77) rfl rfl ?_
    refine x_il2 (pc := 78) rfl rfl ?_
    refine x_k (pc := 80) rfl rfl rfl ⟨Nat.le_of_ble_eq_true rfl, Nat.le_of_ble_eq_true rfl, Nat.le_of_ble_eq_true rfl⟩ rfl (mq_k (c_120 (I := va_up I1 68 (nI 0)) (A := A2) (D := dD S) (by rw [g2 50 (by decide), g1 50 (by decide)]; exact hM.2.1) (hG.1 _ (by omega)).1) ?_)
    show mq 115 83 [some (.ref 67), some (.int (nI l)), some (.ref 71), some (.int (nI nn)), some (.int (nI p)), some (.int q), some (.int (nI N)), some (.int (nI cn)), some (.int (nI (f (cn - 1)))), some (.int (nI nn)), none] [.int (nI (bB (dD S) (f (cn - 1)))), .int (nI (2 ^ nn - 1)), .int (nI nn), .ref 71, .ref 67] (hS n u (va_up I1 68 (nI 0)) A2 J B mk sn L xs X) _
    refine x_il2 (pc := 83) rfl rfl ?_
    refine x_il2 (pc := 85) rfl rfl ?_
    refine x_k (pc := 87) rfl rfl rfl ⟨Nat.le_of_ble_eq_true rfl, Nat.le_of_ble_eq_true rfl, Nat.le_of_ble_eq_true rfl⟩ rfl (k_127_53 (I := va_up I1 68 (nI 0)) (A := A2) (nn := nn) (m := 2 ^ nn - 1) (k0 := 0) (ba := nI (bB (dD S) (f (cn - 1)))) (p := nI p) (s := q) (g := gR (nmb N r)) (t := []) (mask_lt h4) h4 (by omega) (fun i hi => absurd hi (Nat.not_lt_zero i)) (mask_1 h1 h4) b2 ⟨rfl, fun j hj => absurd hj (Nat.not_lt_zero j)⟩ (by rw [List.length_nil]; omega) (fun I3 A3 f3 g3 h3 => ?_))
    show mq 115 90 [some (.ref 67), some (.int (nI l)), some (.ref 71), some (.int (nI nn)), some (.int (nI p)), some (.int q), some (.int (nI N)), some (.int (nI cn)), some (.int (nI (f (cn - 1)))), some (.int (nI nn)), none] [] (hS n u I3 A3 J B mk sn L xs X) _
    rw [kp_all (l := (nmb N r)) (by rw [hlr, hr]) h4, List.nil_append, ← ht] at h3
    refine x_il2 (pc := 90) rfl rfl ?_
    refine x_ifN_lt (pc := 92) (t := 112) rfl rfl (by omega) ?_
    refine x_al1 (pc := 95) rfl rfl ?_
    refine x_il2 (pc := 96) rfl rfl ?_
    refine x_k (pc := 98) rfl rfl rfl ⟨Nat.le_of_ble_eq_true rfl, Nat.le_of_ble_eq_true rfl, Nat.le_of_ble_eq_true rfl⟩ rfl (mq_k (c_123 (I := I3) (A := A3) (D := dD S) (by rw [g3 50 (by decide), g2 50 (by decide), g1 50 (by decide)]; exact hM.2.1) (hG.1 _ (by omega)).1) ?_)
    show mq 115 101 [some (.ref 67), some (.int (nI l)), some (.ref 71), some (.int (nI nn)), some (.int (nI p)), some (.int q), some (.int (nI N)), some (.int (nI cn)), some (.int (nI (f (cn - 1)))), some (.int (nI nn)), none] [.int (nI (mB (dD S) (f (cn - 1))))] (hS n u I3 A3 J B mk sn L xs X) _
    refine x_al1 (pc := 101) rfl rfl ?_
    refine g_67_13 (pc := 102) (v := nI ((t).length)) rfl rfl h3.1 ?_
    refine x_iaddN (pc := 105) (c := (mB (dD S) (f (cn - 1))) + ((t).length)) rfl rfl ?_
    refine x_const (pc := 106) (pc' := 109) (.int (nI 128)) rfl rfl rfl rfl ?_
    have hmb := mB_lt hbyt (f (cn - 1))
    refine x_cmpN_le (pc := 109) (t := 169) rfl rfl (by omega) (by omega) (fun c109 => ?_) (fun c109 => ?_)
    · omega
    · refine x_al1 (pc := 112) rfl rfl ?_
      refine x_k (pc := 113) rfl rfl rfl ⟨Nat.le_of_ble_eq_true rfl, Nat.le_of_ble_eq_true rfl, Nat.le_of_ble_eq_true rfl⟩ rfl (mq_k (c_131 (I := I3) (A := A3) (D := dD S) (by rw [g3 50 (by decide), g2 50 (by decide), g1 50 (by decide)]; exact hM.2.1)) ?_)
      show mq 115 116 [some (.ref 67), some (.int (nI l)), some (.ref 71), some (.int (nI nn)), some (.int (nI p)), some (.int q), some (.int (nI N)), some (.int (nI cn)), some (.int (nI (f (cn - 1)))), some (.int (nI nn)), none] [.int (frS (dD S) 16 0)] (hS n u I3 A3 J B mk sn L xs X) _
      refine x_top (y := (-1)) (hfr) ?_
      refine x_is2 (pc := 116) (ml' := [some (.ref 67), some (.int (nI l)), some (.ref 71), some (.int (nI nn)), some (.int (nI p)), some (.int q), some (.int (nI N)), some (.int (nI cn)), some (.int (-1)), some (.int (nI nn)), none]) rfl rfl ?_
      refine x_il2 (pc := 118) rfl rfl ?_
      refine x_if_ge (pc := 120) (t := 125) rfl rfl rfl (fun c => absurd c (by decide)) (fun _ => ?_)
      refine x_const (pc := 123) (pc' := 124) (.int (-1)) rfl rfl rfl rfl ?_
      refine x_ret (pc := 124) rfl rfl ?_
      exact kr _ _ (Fr_cons (Fr_u (Fr_cons (Fr_refl _ _) f1 (by decide)) (by decide)) f3 (by decide)) (Fr_cons (Fr_cons (Fr_cons (Fr_refl _ _) g1 (by decide)) g2 (by decide)) g3 (by decide)) (MB_fr b2 g3 (by decide))
  · refine x_const (pc := 19) (pc' := 20) (.int (-1)) rfl rfl rfl rfl ?_
    refine x_step (pc := 20) (pc' := 32) rfl rfl rfl rfl ?_
    refine x_is2 (pc := 32) (ml' := [some (.ref 67), some (.int (nI l)), some (.ref 71), some (.int (nI nn)), some (.int (nI p)), some (.int q), some (.int (nI N)), some (.int (nI cn)), some (.int (-1)), none, none]) rfl rfl ?_
    refine x_const (pc := 34) (pc' := 35) (.int (nI 0)) rfl rfl rfl rfl ?_
    refine x_is2 (pc := 35) (ml' := [some (.ref 67), some (.int (nI l)), some (.ref 71), some (.int (nI nn)), some (.int (nI p)), some (.int q), some (.int (nI N)), some (.int (nI cn)), some (.int (-1)), some (.int (nI 0)), none]) rfl rfl ?_
    refine l_115n_53 (I := I1) (A := A1) (r := r) hr h4 nn 0 (Nat.zero_add _) (fun i hi => absurd hi (Nat.not_lt_zero i)) (fun i hi => by rw [g1 53 (by decide)]; exact hT i hi) (fun A2 g2 b2 => ?_)
    refine x_al1 (pc := 58) rfl rfl ?_
    refine x_const (pc := 59) (pc' := 60) (.int (nI 0)) rfl rfl rfl rfl ?_
    refine p_67_13 (pc := 60) rfl rfl ?_
    refine x_il2 (pc := 63) rfl rfl ?_
    refine x_if_lt (pc := 65) (t := 90) rfl rfl rfl (fun _ => ?_) (fun c => absurd (by decide) c)
    refine x_il2 (pc := 90) rfl rfl ?_
    refine x_if_lt (pc := 92) (t := 112) rfl rfl rfl (fun _ => ?_) (fun c => absurd (by decide) c)
    refine x_al1 (pc := 112) rfl rfl ?_
    refine x_k (pc := 113) rfl rfl rfl ⟨Nat.le_of_ble_eq_true rfl, Nat.le_of_ble_eq_true rfl, Nat.le_of_ble_eq_true rfl⟩ rfl (mq_k (c_131 (I := va_up I1 68 (nI 0)) (A := A2) (D := dD S) (by rw [g2 50 (by decide), g1 50 (by decide)]; exact hM.2.1)) ?_)
    show mq 115 116 [some (.ref 67), some (.int (nI l)), some (.ref 71), some (.int (nI nn)), some (.int (nI p)), some (.int q), some (.int (nI N)), some (.int (nI cn)), some (.int (-1)), some (.int (nI nn)), none] [.int (frS (dD S) 16 0)] (hS n u (va_up I1 68 (nI 0)) A2 J B mk sn L xs X) _
    refine x_top (y := (-1)) (hfr) ?_
    refine x_is2 (pc := 116) (ml' := [some (.ref 67), some (.int (nI l)), some (.ref 71), some (.int (nI nn)), some (.int (nI p)), some (.int q), some (.int (nI N)), some (.int (nI cn)), some (.int (-1)), some (.int (nI nn)), none]) rfl rfl ?_
    refine x_il2 (pc := 118) rfl rfl ?_
    refine x_if_ge (pc := 120) (t := 125) rfl rfl rfl (fun c => absurd c (by decide)) (fun _ => ?_)
    refine x_const (pc := 123) (pc' := 124) (.int (-1)) rfl rfl rfl rfl ?_
    refine x_ret (pc := 124) rfl rfl ?_
    exact kr _ _ (Fr_u (Fr_cons (Fr_refl _ _) f1 (by decide)) (by decide)) (Fr_cons (Fr_cons (Fr_refl _ _) g1 (by decide)) g2 (by decide)) b2
set_option maxRecDepth 100000 in
set_option maxHeartbeats 4000000 in
theorem k_115b_53 {l p nn N cn : Nat} {f bc : Nat → Nat} {q : Int32} {r : List R5} {S : DS} (hM : mD S I A) (ho : dO S = false) (hl : l < 4) (hG : SG (dD S) l f cn) (hW : ∀ k, k < cn → WS (dD S) (f k) (bc (f k))) (hnx : nxO (dD S) f bc cn = nI N) (hNb : N + 4 < 2 ^ 31) (hr : r.length = nn) (h1 : 1 ≤ nn) (h4 : nn ≤ 4) (hp : p < 256) (hT : MT 53 A r) (hnf : cn = 0 ∨ 128 < mB (dD S) (f (cn - 1)) + (eBt (nI (bB (dD S) (f (cn - 1)))) (nI p) q (nmb N r)).length) {s : Nat} (hs : s < 16) (hfr : frS (dD S) 16 0 = nI s) {Q : mO × mHp → Prop} (kk : ∀ I' A', Fr [61, 62, 63, 64, 65, 66, 67, 68, 69, 70, 71] I I' → Fr [50, 52, 54, 55, 56, 53] A A' → mD (wrs S (hdW s l N :: apW s 8 (eBt (nI N) (nI p) q (nmb N r)))) I' A' → (dO (wrs S (hdW s l N :: apW s 8 (eBt (nI N) (nI p) q (nmb N r)))) = false → Fr [62, 63, 65, 66, 67, 68, 71] I I' ∧ Fr [50, 52, 54, 55, 53] A A' ∧ A' 55 = if p < 8 then knw (A 55) l p q nn (nI N) else A 55) → MB 53 A' (gR (nmb N r)) nn → Q (.inl (some (.int (nI N))), hS n u I' A' J B mk sn L xs X)) : mq 115 0 [some (.ref 67), some (.int (nI l)), some (.ref 71), some (.int (nI nn)), some (.int (nI p)), some (.int q), none, none, none, none, none] [] (hS n u I A J B mk sn L xs X) Q := by
  have h61 : I 61 = nI 0 := by
    rw [hM.1.1, ho]
    rfl
  have hbyt := hM.2.1.2.1
  have hcn16 := SG_le hG
  have hfs : 0 < cn → f (cn - 1) < 16 := fun q => (hG.1 _ (by omega)).1
  have hlr := nmb_len r N
  have hel := eBt_len (nI (bB (dD S) (f (cn - 1)))) (nI p) q (nmb N r)
  rw [nmb_len] at hel
  obtain ⟨t, ht⟩ : ∃ x, x = eBt (nI (bB (dD S) (f (cn - 1)))) (nI p) q (nmb N r) := ⟨_, rfl⟩
  have htb : ∀ i, gB0 t i < 256 := by
    rw [ht]
    exact gB0_by (eBt_by _ _ _ _)
  rw [← ht] at hnf hel
  have hel2 := eBt_len (nI N) (nI p) q (nmb N r)
  rw [nmb_len] at hel2
  obtain ⟨t2, ht2⟩ : ∃ x, x = eBt (nI N) (nI p) q (nmb N r) := ⟨_, rfl⟩
  have htb2 : ∀ i, gB0 t2 i < 256 := by
    rw [ht2]
    exact gB0_by (eBt_by _ _ _ _)
  rw [← ht2] at kk hel2
  refine x_al1 (pc := 0) rfl rfl ?_
  refine x_il1 (pc := 1) rfl rfl ?_
  refine x_k (pc := 2) rfl rfl rfl ⟨Nat.le_of_ble_eq_true rfl, Nat.le_of_ble_eq_true rfl, Nat.le_of_ble_eq_true rfl⟩ rfl (k_116u (I := I) (A := A) (D := dD S) (bc := bc) hM.2.1 hl hG hW h61 (fun I1 A1 f1 g1 => ?_))
  show mq 115 5 [some (.ref 67), some (.int (nI l)), some (.ref 71), some (.int (nI nn)), some (.int (nI p)), some (.int q), none, none, none, none, none] [.int (nxO (dD S) f bc cn)] (hS n u I1 A1 J B mk sn L xs X) _
  refine x_top (y := nI N) (hnx) ?_
  refine x_is2 (pc := 5) (ml' := [some (.ref 67), some (.int (nI l)), some (.ref 71), some (.int (nI nn)), some (.int (nI p)), some (.int q), some (.int (nI N)), none, none, none, none]) rfl rfl ?_
  refine x_al1 (pc := 7) rfl rfl ?_
  refine x_il1 (pc := 8) rfl rfl ?_
  refine x_k (pc := 9) rfl rfl rfl ⟨Nat.le_of_ble_eq_true rfl, Nat.le_of_ble_eq_true rfl, Nat.le_of_ble_eq_true rfl⟩ rfl (k_117 (I := I1) (A := A1) (D := dD S) (by rw [g1 50 (by decide)]; exact hM.2.1) hl ((f1 61 (by decide)).trans h61) ?_)
  show mq 115 12 [some (.ref 67), some (.int (nI l)), some (.ref 71), some (.int (nI nn)), some (.int (nI p)), some (.int q), some (.int (nI N)), none, none, none, none] [.int (nI (cS (ow (dD S) l) 16))] (hS n u I1 A1 J B mk sn L xs X) _
  refine x_top (y := nI cn) (congrArg nI (SG_n hG)) ?_
  refine x_is2 (pc := 12) (ml' := [some (.ref 67), some (.int (nI l)), some (.ref 71), some (.int (nI nn)), some (.int (nI p)), some (.int q), some (.int (nI N)), some (.int (nI cn)), none, none, none]) rfl rfl ?_
  refine x_il2 (pc := 14) rfl rfl ?_
  refine x_ifN_ne (pc := 16) (t := 23) rfl rfl (by omega) (fun c16 => ?_) (fun c16 => ?_)
  · refine x_al1 (pc := 23) rfl rfl ?_
    refine x_il1 (pc := 24) rfl rfl ?_
    refine x_il2 (pc := 25) rfl rfl ?_
    refine x_const (pc := 27) (pc' := 28) (.int (nI 1)) rfl rfl rfl rfl ?_
    refine x_isubN (pc := 28) rfl ((by omega)) ?_
    refine x_k (pc := 29) rfl rfl rfl ⟨Nat.le_of_ble_eq_true rfl, Nat.le_of_ble_eq_true rfl, Nat.le_of_ble_eq_true rfl⟩ rfl (k_119 (I := I1) (A := A1) (D := dD S) (m := cn - 1) (by rw [g1 50 (by decide)]; exact hM.2.1) hG (by omega) hl ((f1 61 (by decide)).trans h61) ?_)
    show mq 115 32 [some (.ref 67), some (.int (nI l)), some (.ref 71), some (.int (nI nn)), some (.int (nI p)), some (.int q), some (.int (nI N)), some (.int (nI cn)), none, none, none] [.int (nI (f (cn - 1)))] (hS n u I1 A1 J B mk sn L xs X) _
    refine x_is2 (pc := 32) (ml' := [some (.ref 67), some (.int (nI l)), some (.ref 71), some (.int (nI nn)), some (.int (nI p)), some (.int q), some (.int (nI N)), some (.int (nI cn)), some (.int (nI (f (cn - 1)))), none, none]) rfl rfl ?_
    refine x_const (pc := 34) (pc' := 35) (.int (nI 0)) rfl rfl rfl rfl ?_
    refine x_is2 (pc := 35) (ml' := [some (.ref 67), some (.int (nI l)), some (.ref 71), some (.int (nI nn)), some (.int (nI p)), some (.int q), some (.int (nI N)), some (.int (nI cn)), some (.int (nI (f (cn - 1)))), some (.int (nI 0)), none]) rfl rfl ?_
    refine l_115n_53 (I := I1) (A := A1) (r := r) hr h4 nn 0 (Nat.zero_add _) (fun i hi => absurd hi (Nat.not_lt_zero i)) (fun i hi => by rw [g1 53 (by decide)]; exact hT i hi) (fun A2 g2 b2 => ?_)
    refine x_al1 (pc := 58) rfl rfl ?_
    refine x_const (pc := 59) (pc' := 60) (.int (nI 0)) rfl rfl rfl rfl ?_
    refine p_67_13 (pc := 60) rfl rfl ?_
    refine x_il2 (pc := 63) rfl rfl ?_
    refine x_ifN_lt (pc := 65) (t := 90) rfl rfl (by omega) ?_
    refine x_al1 (pc := 68) rfl rfl ?_
    refine x_al1 (pc := 69) rfl rfl ?_
    refine x_il1 (pc := 70) rfl rfl ?_
    refine x_const (pc := 71) (pc' := 73) (.int (nI 15)) rfl rfl rfl rfl ?_
    refine x_const (pc := 73) (pc' := 74) (.int (nI 4)) rfl rfl rfl rfl ?_
    refine x_il1 (pc := 74) rfl rfl ?_
    refine x_isubN (pc := 75) rfl ((by omega)) ?_
    refine x_ishrV (pc := 76) (v := nI (2 ^ nn - 1)) rfl (mask15 h1 h4) ?_
    refine x_al1 (pc := 77) rfl rfl ?_
    refine x_il2 (pc := 78) rfl rfl ?_
    refine x_k (pc := 80) rfl rfl rfl ⟨Nat.le_of_ble_eq_true rfl, Nat.le_of_ble_eq_true rfl, Nat.le_of_ble_eq_true rfl⟩ rfl (mq_k (c_120 (I := va_up I1 68 (nI 0)) (A := A2) (D := dD S) (by rw [g2 50 (by decide), g1 50 (by decide)]; exact hM.2.1) (hG.1 _ (by omega)).1) ?_)
    show mq 115 83 [some (.ref 67), some (.int (nI l)), some (.ref 71), some (.int (nI nn)), some (.int (nI p)), some (.int q), some (.int (nI N)), some (.int (nI cn)), some (.int (nI (f (cn - 1)))), some (.int (nI nn)), none] [.int (nI (bB (dD S) (f (cn - 1)))), .int (nI (2 ^ nn - 1)), .int (nI nn), .ref 71, .ref 67] (hS n u (va_up I1 68 (nI 0)) A2 J B mk sn L xs X) _
    refine x_il2 (pc := 83) rfl rfl ?_
    refine x_il2 (pc := 85) rfl rfl ?_
    refine x_k (pc := 87) rfl rfl rfl ⟨Nat.le_of_ble_eq_true rfl, Nat.le_of_ble_eq_true rfl, Nat.le_of_ble_eq_true rfl⟩ rfl (k_127_53 (I := va_up I1 68 (nI 0)) (A := A2) (nn := nn) (m := 2 ^ nn - 1) (k0 := 0) (ba := nI (bB (dD S) (f (cn - 1)))) (p := nI p) (s := q) (g := gR (nmb N r)) (t := []) (mask_lt h4) h4 (by omega) (fun i hi => absurd hi (Nat.not_lt_zero i)) (mask_1 h1 h4) b2 ⟨rfl, fun j hj => absurd hj (Nat.not_lt_zero j)⟩ (by rw [List.length_nil]; omega) (fun I3 A3 f3 g3 h3 => ?_))
    show mq 115 90 [some (.ref 67), some (.int (nI l)), some (.ref 71), some (.int (nI nn)), some (.int (nI p)), some (.int q), some (.int (nI N)), some (.int (nI cn)), some (.int (nI (f (cn - 1)))), some (.int (nI nn)), none] [] (hS n u I3 A3 J B mk sn L xs X) _
    rw [kp_all (l := (nmb N r)) (by rw [hlr, hr]) h4, List.nil_append, ← ht] at h3
    refine x_il2 (pc := 90) rfl rfl ?_
    refine x_ifN_lt (pc := 92) (t := 112) rfl rfl (by omega) ?_
    refine x_al1 (pc := 95) rfl rfl ?_
    refine x_il2 (pc := 96) rfl rfl ?_
    refine x_k (pc := 98) rfl rfl rfl ⟨Nat.le_of_ble_eq_true rfl, Nat.le_of_ble_eq_true rfl, Nat.le_of_ble_eq_true rfl⟩ rfl (mq_k (c_123 (I := I3) (A := A3) (D := dD S) (by rw [g3 50 (by decide), g2 50 (by decide), g1 50 (by decide)]; exact hM.2.1) (hG.1 _ (by omega)).1) ?_)
    show mq 115 101 [some (.ref 67), some (.int (nI l)), some (.ref 71), some (.int (nI nn)), some (.int (nI p)), some (.int q), some (.int (nI N)), some (.int (nI cn)), some (.int (nI (f (cn - 1)))), some (.int (nI nn)), none] [.int (nI (mB (dD S) (f (cn - 1))))] (hS n u I3 A3 J B mk sn L xs X) _
    refine x_al1 (pc := 101) rfl rfl ?_
    refine g_67_13 (pc := 102) (v := nI ((t).length)) rfl rfl h3.1 ?_
    refine x_iaddN (pc := 105) (c := (mB (dD S) (f (cn - 1))) + ((t).length)) rfl rfl ?_
    refine x_const (pc := 106) (pc' := 109) (.int (nI 128)) rfl rfl rfl rfl ?_
    have hmb := mB_lt hbyt (f (cn - 1))
    refine x_cmpN_le (pc := 109) (t := 169) rfl rfl (by omega) (by omega) (fun c109 => ?_) (fun c109 => ?_)
    · omega
    · refine x_al1 (pc := 112) rfl rfl ?_
      refine x_k (pc := 113) rfl rfl rfl ⟨Nat.le_of_ble_eq_true rfl, Nat.le_of_ble_eq_true rfl, Nat.le_of_ble_eq_true rfl⟩ rfl (mq_k (c_131 (I := I3) (A := A3) (D := dD S) (by rw [g3 50 (by decide), g2 50 (by decide), g1 50 (by decide)]; exact hM.2.1)) ?_)
      show mq 115 116 [some (.ref 67), some (.int (nI l)), some (.ref 71), some (.int (nI nn)), some (.int (nI p)), some (.int q), some (.int (nI N)), some (.int (nI cn)), some (.int (nI (f (cn - 1)))), some (.int (nI nn)), none] [.int (frS (dD S) 16 0)] (hS n u I3 A3 J B mk sn L xs X) _
      refine x_top (y := nI s) (hfr) ?_
      refine x_is2 (pc := 116) (ml' := [some (.ref 67), some (.int (nI l)), some (.ref 71), some (.int (nI nn)), some (.int (nI p)), some (.int q), some (.int (nI N)), some (.int (nI cn)), some (.int (nI s)), some (.int (nI nn)), none]) rfl rfl ?_
      refine x_il2 (pc := 118) rfl rfl ?_
      refine x_ifN_ge (pc := 120) (t := 125) rfl rfl (by omega) ?_
      refine x_al1 (pc := 125) rfl rfl ?_
      refine x_const (pc := 126) (pc' := 128) (.int (nI 8)) rfl rfl rfl rfl ?_
      refine x_il1 (pc := 128) rfl rfl ?_
      refine x_const (pc := 129) (pc' := 130) (.int (nI 1)) rfl rfl rfl rfl ?_
      refine x_iaddN (pc := 130) (c := l + 1) rfl rfl ?_
      refine x_const (pc := 131) (pc' := 132) (.int (nI 0)) rfl rfl rfl rfl ?_
      refine x_il2 (pc := 132) rfl rfl ?_
      refine x_k (pc := 134) rfl rfl rfl ⟨Nat.le_of_ble_eq_true rfl, Nat.le_of_ble_eq_true rfl, Nat.le_of_ble_eq_true rfl⟩ rfl (k_132 (I := I3) (A := A3) (m := 8) (o := l + 1) (g := 0) (b := N) (by decide) (by omega) (fun I4 A4 f4 g4 h4t => ?_))
      show mq 115 137 [some (.ref 67), some (.int (nI l)), some (.ref 71), some (.int (nI nn)), some (.int (nI p)), some (.int q), some (.int (nI N)), some (.int (nI cn)), some (.int (nI s)), some (.int (nI nn)), none] [] (hS n u I4 A4 J B mk sn L xs X) _
      refine x_al1 (pc := 137) rfl rfl ?_
      refine x_il2 (pc := 138) rfl rfl ?_
      refine x_const (pc := 140) (pc' := 141) (.int (nI 0)) rfl rfl rfl rfl ?_
      refine x_const (pc := 141) (pc' := 143) (.int (nI 32)) rfl rfl rfl rfl ?_
      refine x_k (pc := 143) rfl rfl rfl ⟨Nat.le_of_ble_eq_true rfl, Nat.le_of_ble_eq_true rfl, Nat.le_of_ble_eq_true rfl⟩ rfl (k_133 (I := I4) (A := A4) (S := S) (s := s) (f := 0) (e := 32) (t := hdr 8 (l + 1) 0 N) (mD_fr hM (show Fr [65, 66, 67, 68, 71] I I4 from (Fr_cons (Fr_cons (Fr_u (Fr_cons (Fr_refl _ _) f1 (by decide)) (by decide)) f3 (by decide)) f4 (by decide))) (show Fr [52, 54, 53] A A4 from (Fr_cons (Fr_cons (Fr_cons (Fr_cons (Fr_refl _ _) g1 (by decide)) g2 (by decide)) g3 (by decide)) g4 (by decide))) (by decide) (by decide)) h4t (gB0_by (hdr_by _ _ _ _)) hs (by decide) (by decide) (show 8 ≤ 600 by decide) (fun I5 A5 f5 g5 h5 x5 => ?_))
      show mq 115 146 [some (.ref 67), some (.int (nI l)), some (.ref 71), some (.int (nI nn)), some (.int (nI p)), some (.int q), some (.int (nI N)), some (.int (nI cn)), some (.int (nI s)), some (.int (nI nn)), none] [] (hS n u I5 A5 J B mk sn L xs X) _
      rw [spW_hd] at h5 x5
      have F4 : Fr [65, 66, 67, 68, 71] I I4 := (Fr_cons (Fr_cons (Fr_u (Fr_cons (Fr_refl _ _) f1 (by decide)) (by decide)) f3 (by decide)) f4 (by decide))
      have G4 : Fr [52, 54, 53] A A4 := (Fr_cons (Fr_cons (Fr_cons (Fr_cons (Fr_refl _ _) g1 (by decide)) g2 (by decide)) g3 (by decide)) g4 (by decide))
      have b5 : MB 53 A5 (gR (nmb N r)) nn := MB_fr (MB_fr (MB_fr b2 g3 (by decide)) g4 (by decide)) g5 (by decide)
      refine x_al1 (pc := 146) rfl rfl ?_
      refine x_const (pc := 147) (pc' := 148) (.int (nI 0)) rfl rfl rfl rfl ?_
      refine p_67_13 (pc := 148) rfl rfl ?_
      refine x_al1 (pc := 151) rfl rfl ?_
      refine x_al1 (pc := 152) rfl rfl ?_
      refine x_il1 (pc := 153) rfl rfl ?_
      refine x_const (pc := 154) (pc' := 156) (.int (nI 15)) rfl rfl rfl rfl ?_
      refine x_const (pc := 156) (pc' := 157) (.int (nI 4)) rfl rfl rfl rfl ?_
      refine x_il1 (pc := 157) rfl rfl ?_
      refine x_isubN (pc := 158) rfl ((by omega)) ?_
      refine x_ishrV (pc := 159) (v := nI (2 ^ nn - 1)) rfl (mask15 h1 h4) ?_
      refine x_il2 (pc := 160) rfl rfl ?_
      refine x_il2 (pc := 162) rfl rfl ?_
      refine x_il2 (pc := 164) rfl rfl ?_
      refine x_k (pc := 166) rfl rfl rfl ⟨Nat.le_of_ble_eq_true rfl, Nat.le_of_ble_eq_true rfl, Nat.le_of_ble_eq_true rfl⟩ rfl (k_127_53 (I := va_up I5 68 (nI 0)) (A := A5) (nn := nn) (m := 2 ^ nn - 1) (k0 := 0) (ba := nI N) (p := nI p) (s := q) (g := gR (nmb N r)) (t := []) (mask_lt h4) h4 (by omega) (fun i hi => absurd hi (Nat.not_lt_zero i)) (mask_1 h1 h4) b5 ⟨rfl, fun j hj => absurd hj (Nat.not_lt_zero j)⟩ (by rw [List.length_nil]; omega) (fun I6 A6 f6 g6 h6 => ?_))
      show mq 115 169 [some (.ref 67), some (.int (nI l)), some (.ref 71), some (.int (nI nn)), some (.int (nI p)), some (.int q), some (.int (nI N)), some (.int (nI cn)), some (.int (nI s)), some (.int (nI nn)), none] [] (hS n u I6 A6 J B mk sn L xs X) _
      rw [kp_all (l := (nmb N r)) (by rw [hlr, hr]) h4, List.nil_append, ← ht2] at h6
      have M6 : mD (wr1 S (hdW s l N)) I6 A6 := mD_fr (mD_fr h5 (Fr_up I5 68 (nI 0)) (Fr_refl [] A5) (by decide) (by decide)) f6 g6 (by decide) (by decide)
      have F6 : Fr [61, 62, 63, 64, 65, 66, 67, 68, 69, 70, 71] I I6 := Fr_cons (Fr_u (Fr_cons (Fr_cons (Fr_refl _ I) F4 (by decide)) f5 (by decide)) (by decide)) f6 (by decide)
      have G6 : Fr [50, 52, 54, 55, 56, 53] A A6 := Fr_cons (Fr_cons (Fr_cons (Fr_refl _ A) G4 (by decide)) g5 (by decide)) g6 (by decide)
      have x6 : dO (wr1 S (hdW s l N)) = false → Fr [62, 63, 65, 66, 67, 68, 71] I I6 ∧ Fr [50, 52, 54, 55, 53] A A6 := fun q => ⟨Fr_cons (Fr_u (Fr_cons (Fr_cons (Fr_refl _ I) F4 (by decide)) (x5 q).1 (by decide)) (by decide)) f6 (by decide), Fr_cons (Fr_cons (Fr_cons (Fr_refl _ A) G4 (by decide)) (x5 q).2 (by decide)) g6 (by decide)⟩
      have ev : wrs S (hdW s l N :: apW s 8 (t2)) = wrs (wr1 S (hdW s l N)) (apW s 8 t2) := rfl
      by_cases o6 : dO (wr1 S (hdW s l N)) = true
      · have h661 : I6 61 = nI 1 := by
          rw [M6.1.1, o6]
          rfl
        refine x_al1 (pc := 169) rfl rfl ?_
        refine g_67_2 (pc := 170) (v := nI 1) rfl rfl h661 ?_
        refine x_ifN_eq (pc := 173) (t := 179) rfl rfl (by decide) (fun c => absurd c (by decide)) (fun _ => ?_)
        refine x_il2 (pc := 176) rfl rfl ?_
        refine x_ret (pc := 178) rfl rfl ?_
        exact kk I6 A6 F6 G6 (by rw [ev, wrs_off _ o6]; exact M6) (fun q => absurd (ev ▸ q) (by rw [wrs_off _ o6, o6]; decide)) (MB_fr b5 g6 (by decide))
      · have o6f := ne_true o6
        have h661 : I6 61 = nI 0 := by
          rw [M6.1.1, o6f]
          rfl
        have hb8 := hd_D o6f (by omega)
        refine x_al1 (pc := 169) rfl rfl ?_
        refine g_67_2 (pc := 170) (v := nI 0) rfl rfl h661 ?_
        refine x_ifN_eq (pc := 173) (t := 179) rfl rfl (by decide) (fun _ => ?_) (fun c => absurd c (by decide))
        refine l_115t_53 (t := t2) M6 h6 htb2 hs (by rw [hb8.1]; omega) hl h4 hp (fun I8 A8 f8 g8 h8 x8 => ?_)
        rw [hb8.1, ← ev] at h8 x8
        exact kk I8 A8 (Fr_cons F6 f8 (by decide)) (Fr_cons G6 g8 (by decide)) h8 (fun q => ⟨Fr_cons (x6 o6f).1 (x8 q).1 (by decide), Fr_cons (x6 o6f).2 (x8 q).2.1 (by decide), by rw [← show A6 55 = A 55 by rw [g6 55 (by decide), (x5 o6f).2 55 (by decide), G4 55 (by decide)]]; exact (x8 q).2.2⟩) (MB_fr (MB_fr b5 g6 (by decide)) g8 (by decide))
  · refine x_const (pc := 19) (pc' := 20) (.int (-1)) rfl rfl rfl rfl ?_
    refine x_step (pc := 20) (pc' := 32) rfl rfl rfl rfl ?_
    refine x_is2 (pc := 32) (ml' := [some (.ref 67), some (.int (nI l)), some (.ref 71), some (.int (nI nn)), some (.int (nI p)), some (.int q), some (.int (nI N)), some (.int (nI cn)), some (.int (-1)), none, none]) rfl rfl ?_
    refine x_const (pc := 34) (pc' := 35) (.int (nI 0)) rfl rfl rfl rfl ?_
    refine x_is2 (pc := 35) (ml' := [some (.ref 67), some (.int (nI l)), some (.ref 71), some (.int (nI nn)), some (.int (nI p)), some (.int q), some (.int (nI N)), some (.int (nI cn)), some (.int (-1)), some (.int (nI 0)), none]) rfl rfl ?_
    refine l_115n_53 (I := I1) (A := A1) (r := r) hr h4 nn 0 (Nat.zero_add _) (fun i hi => absurd hi (Nat.not_lt_zero i)) (fun i hi => by rw [g1 53 (by decide)]; exact hT i hi) (fun A2 g2 b2 => ?_)
    refine x_al1 (pc := 58) rfl rfl ?_
    refine x_const (pc := 59) (pc' := 60) (.int (nI 0)) rfl rfl rfl rfl ?_
    refine p_67_13 (pc := 60) rfl rfl ?_
    refine x_il2 (pc := 63) rfl rfl ?_
    refine x_if_lt (pc := 65) (t := 90) rfl rfl rfl (fun _ => ?_) (fun c => absurd (by decide) c)
    refine x_il2 (pc := 90) rfl rfl ?_
    refine x_if_lt (pc := 92) (t := 112) rfl rfl rfl (fun _ => ?_) (fun c => absurd (by decide) c)
    refine x_al1 (pc := 112) rfl rfl ?_
    refine x_k (pc := 113) rfl rfl rfl ⟨Nat.le_of_ble_eq_true rfl, Nat.le_of_ble_eq_true rfl, Nat.le_of_ble_eq_true rfl⟩ rfl (mq_k (c_131 (I := va_up I1 68 (nI 0)) (A := A2) (D := dD S) (by rw [g2 50 (by decide), g1 50 (by decide)]; exact hM.2.1)) ?_)
    show mq 115 116 [some (.ref 67), some (.int (nI l)), some (.ref 71), some (.int (nI nn)), some (.int (nI p)), some (.int q), some (.int (nI N)), some (.int (nI cn)), some (.int (-1)), some (.int (nI nn)), none] [.int (frS (dD S) 16 0)] (hS n u (va_up I1 68 (nI 0)) A2 J B mk sn L xs X) _
    refine x_top (y := nI s) (hfr) ?_
    refine x_is2 (pc := 116) (ml' := [some (.ref 67), some (.int (nI l)), some (.ref 71), some (.int (nI nn)), some (.int (nI p)), some (.int q), some (.int (nI N)), some (.int (nI cn)), some (.int (nI s)), some (.int (nI nn)), none]) rfl rfl ?_
    refine x_il2 (pc := 118) rfl rfl ?_
    refine x_ifN_ge (pc := 120) (t := 125) rfl rfl (by omega) ?_
    refine x_al1 (pc := 125) rfl rfl ?_
    refine x_const (pc := 126) (pc' := 128) (.int (nI 8)) rfl rfl rfl rfl ?_
    refine x_il1 (pc := 128) rfl rfl ?_
    refine x_const (pc := 129) (pc' := 130) (.int (nI 1)) rfl rfl rfl rfl ?_
    refine x_iaddN (pc := 130) (c := l + 1) rfl rfl ?_
    refine x_const (pc := 131) (pc' := 132) (.int (nI 0)) rfl rfl rfl rfl ?_
    refine x_il2 (pc := 132) rfl rfl ?_
    refine x_k (pc := 134) rfl rfl rfl ⟨Nat.le_of_ble_eq_true rfl, Nat.le_of_ble_eq_true rfl, Nat.le_of_ble_eq_true rfl⟩ rfl (k_132 (I := va_up I1 68 (nI 0)) (A := A2) (m := 8) (o := l + 1) (g := 0) (b := N) (by decide) (by omega) (fun I4 A4 f4 g4 h4t => ?_))
    show mq 115 137 [some (.ref 67), some (.int (nI l)), some (.ref 71), some (.int (nI nn)), some (.int (nI p)), some (.int q), some (.int (nI N)), some (.int (nI cn)), some (.int (nI s)), some (.int (nI nn)), none] [] (hS n u I4 A4 J B mk sn L xs X) _
    refine x_al1 (pc := 137) rfl rfl ?_
    refine x_il2 (pc := 138) rfl rfl ?_
    refine x_const (pc := 140) (pc' := 141) (.int (nI 0)) rfl rfl rfl rfl ?_
    refine x_const (pc := 141) (pc' := 143) (.int (nI 32)) rfl rfl rfl rfl ?_
    refine x_k (pc := 143) rfl rfl rfl ⟨Nat.le_of_ble_eq_true rfl, Nat.le_of_ble_eq_true rfl, Nat.le_of_ble_eq_true rfl⟩ rfl (k_133 (I := I4) (A := A4) (S := S) (s := s) (f := 0) (e := 32) (t := hdr 8 (l + 1) 0 N) (mD_fr hM (show Fr [65, 66, 67, 68, 71] I I4 from (Fr_cons (Fr_u (Fr_cons (Fr_refl _ _) f1 (by decide)) (by decide)) f4 (by decide))) (show Fr [52, 54, 53] A A4 from (Fr_cons (Fr_cons (Fr_cons (Fr_refl _ _) g1 (by decide)) g2 (by decide)) g4 (by decide))) (by decide) (by decide)) h4t (gB0_by (hdr_by _ _ _ _)) hs (by decide) (by decide) (show 8 ≤ 600 by decide) (fun I5 A5 f5 g5 h5 x5 => ?_))
    show mq 115 146 [some (.ref 67), some (.int (nI l)), some (.ref 71), some (.int (nI nn)), some (.int (nI p)), some (.int q), some (.int (nI N)), some (.int (nI cn)), some (.int (nI s)), some (.int (nI nn)), none] [] (hS n u I5 A5 J B mk sn L xs X) _
    rw [spW_hd] at h5 x5
    have F4 : Fr [65, 66, 67, 68, 71] I I4 := (Fr_cons (Fr_u (Fr_cons (Fr_refl _ _) f1 (by decide)) (by decide)) f4 (by decide))
    have G4 : Fr [52, 54, 53] A A4 := (Fr_cons (Fr_cons (Fr_cons (Fr_refl _ _) g1 (by decide)) g2 (by decide)) g4 (by decide))
    have b5 : MB 53 A5 (gR (nmb N r)) nn := MB_fr (MB_fr b2 g4 (by decide)) g5 (by decide)
    refine x_al1 (pc := 146) rfl rfl ?_
    refine x_const (pc := 147) (pc' := 148) (.int (nI 0)) rfl rfl rfl rfl ?_
    refine p_67_13 (pc := 148) rfl rfl ?_
    refine x_al1 (pc := 151) rfl rfl ?_
    refine x_al1 (pc := 152) rfl rfl ?_
    refine x_il1 (pc := 153) rfl rfl ?_
    refine x_const (pc := 154) (pc' := 156) (.int (nI 15)) rfl rfl rfl rfl ?_
    refine x_const (pc := 156) (pc' := 157) (.int (nI 4)) rfl rfl rfl rfl ?_
    refine x_il1 (pc := 157) rfl rfl ?_
    refine x_isubN (pc := 158) rfl ((by omega)) ?_
    refine x_ishrV (pc := 159) (v := nI (2 ^ nn - 1)) rfl (mask15 h1 h4) ?_
    refine x_il2 (pc := 160) rfl rfl ?_
    refine x_il2 (pc := 162) rfl rfl ?_
    refine x_il2 (pc := 164) rfl rfl ?_
    refine x_k (pc := 166) rfl rfl rfl ⟨Nat.le_of_ble_eq_true rfl, Nat.le_of_ble_eq_true rfl, Nat.le_of_ble_eq_true rfl⟩ rfl (k_127_53 (I := va_up I5 68 (nI 0)) (A := A5) (nn := nn) (m := 2 ^ nn - 1) (k0 := 0) (ba := nI N) (p := nI p) (s := q) (g := gR (nmb N r)) (t := []) (mask_lt h4) h4 (by omega) (fun i hi => absurd hi (Nat.not_lt_zero i)) (mask_1 h1 h4) b5 ⟨rfl, fun j hj => absurd hj (Nat.not_lt_zero j)⟩ (by rw [List.length_nil]; omega) (fun I6 A6 f6 g6 h6 => ?_))
    show mq 115 169 [some (.ref 67), some (.int (nI l)), some (.ref 71), some (.int (nI nn)), some (.int (nI p)), some (.int q), some (.int (nI N)), some (.int (nI cn)), some (.int (nI s)), some (.int (nI nn)), none] [] (hS n u I6 A6 J B mk sn L xs X) _
    rw [kp_all (l := (nmb N r)) (by rw [hlr, hr]) h4, List.nil_append, ← ht2] at h6
    have M6 : mD (wr1 S (hdW s l N)) I6 A6 := mD_fr (mD_fr h5 (Fr_up I5 68 (nI 0)) (Fr_refl [] A5) (by decide) (by decide)) f6 g6 (by decide) (by decide)
    have F6 : Fr [61, 62, 63, 64, 65, 66, 67, 68, 69, 70, 71] I I6 := Fr_cons (Fr_u (Fr_cons (Fr_cons (Fr_refl _ I) F4 (by decide)) f5 (by decide)) (by decide)) f6 (by decide)
    have G6 : Fr [50, 52, 54, 55, 56, 53] A A6 := Fr_cons (Fr_cons (Fr_cons (Fr_refl _ A) G4 (by decide)) g5 (by decide)) g6 (by decide)
    have x6 : dO (wr1 S (hdW s l N)) = false → Fr [62, 63, 65, 66, 67, 68, 71] I I6 ∧ Fr [50, 52, 54, 55, 53] A A6 := fun q => ⟨Fr_cons (Fr_u (Fr_cons (Fr_cons (Fr_refl _ I) F4 (by decide)) (x5 q).1 (by decide)) (by decide)) f6 (by decide), Fr_cons (Fr_cons (Fr_cons (Fr_refl _ A) G4 (by decide)) (x5 q).2 (by decide)) g6 (by decide)⟩
    have ev : wrs S (hdW s l N :: apW s 8 (t2)) = wrs (wr1 S (hdW s l N)) (apW s 8 t2) := rfl
    by_cases o6 : dO (wr1 S (hdW s l N)) = true
    · have h661 : I6 61 = nI 1 := by
        rw [M6.1.1, o6]
        rfl
      refine x_al1 (pc := 169) rfl rfl ?_
      refine g_67_2 (pc := 170) (v := nI 1) rfl rfl h661 ?_
      refine x_ifN_eq (pc := 173) (t := 179) rfl rfl (by decide) (fun c => absurd c (by decide)) (fun _ => ?_)
      refine x_il2 (pc := 176) rfl rfl ?_
      refine x_ret (pc := 178) rfl rfl ?_
      exact kk I6 A6 F6 G6 (by rw [ev, wrs_off _ o6]; exact M6) (fun q => absurd (ev ▸ q) (by rw [wrs_off _ o6, o6]; decide)) (MB_fr b5 g6 (by decide))
    · have o6f := ne_true o6
      have h661 : I6 61 = nI 0 := by
        rw [M6.1.1, o6f]
        rfl
      have hb8 := hd_D o6f (by omega)
      refine x_al1 (pc := 169) rfl rfl ?_
      refine g_67_2 (pc := 170) (v := nI 0) rfl rfl h661 ?_
      refine x_ifN_eq (pc := 173) (t := 179) rfl rfl (by decide) (fun _ => ?_) (fun c => absurd c (by decide))
      refine l_115t_53 (t := t2) M6 h6 htb2 hs (by rw [hb8.1]; omega) hl h4 hp (fun I8 A8 f8 g8 h8 x8 => ?_)
      rw [hb8.1, ← ev] at h8 x8
      exact kk I8 A8 (Fr_cons F6 f8 (by decide)) (Fr_cons G6 g8 (by decide)) h8 (fun q => ⟨Fr_cons (x6 o6f).1 (x8 q).1 (by decide), Fr_cons (x6 o6f).2 (x8 q).2.1 (by decide), by rw [← show A6 55 = A 55 by rw [g6 55 (by decide), (x5 o6f).2 55 (by decide), G4 55 (by decide)]]; exact (x8 q).2.2⟩) (MB_fr (MB_fr b5 g6 (by decide)) g8 (by decide))
set_option maxRecDepth 100000 in
set_option maxHeartbeats 4000000 in
theorem k_115_53 {l p nn N cn : Nat} {f bc : Nat → Nat} {q : Int32} {r : List R5} {S : DS} (hM : mD S I A) (ho : dO S = false) (hl : l < 4) (hG : SG (dD S) l f cn) (hW : ∀ k, k < cn → WS (dD S) (f k) (bc (f k))) (hnx : nxO (dD S) f bc cn = nI N) (hNb : N + 4 < 2 ^ 31) (hr : r.length = nn) (h1 : 1 ≤ nn) (h4 : nn ≤ 4) (hp : p < 256) (hT : MT 53 A r) {Q : mO × mHp → Prop} (kk : ∀ S' f' cn', apS S l f cn N (nI p) q (nmb N r) = some (S', f', cn') → ∀ I' A', Fr [61, 62, 63, 64, 65, 66, 67, 68, 69, 70, 71] I I' → Fr [50, 52, 54, 55, 56, 53] A A' → mD S' I' A' → (dO (S') = false → Fr [62, 63, 65, 66, 67, 68, 71] I I' ∧ Fr [50, 52, 54, 55, 53] A A' ∧ A' 55 = if p < 8 then knw (A 55) l p q nn (nI N) else A 55) → MB 53 A' (gR (nmb N r)) nn → Q (.inl (some (.int (nI N))), hS n u I' A' J B mk sn L xs X)) (kr : apS S l f cn N (nI p) q (nmb N r) = none → ∀ I' A', Fr [65, 66, 67, 68, 71] I I' → Fr [52, 54, 53] A A' → MB 53 A' (gR (nmb N r)) nn → Q (.inl (some (.int (-1))), hS n u I' A' J B mk sn L xs X)) : mq 115 0 [some (.ref 67), some (.int (nI l)), some (.ref 71), some (.int (nI nn)), some (.int (nI p)), some (.int q), none, none, none, none, none] [] (hS n u I A J B mk sn L xs X) Q := by
  by_cases hfit : 0 < cn ∧ mB (dD S) (f (cn - 1)) + (eBt (nI (bB (dD S) (f (cn - 1)))) (nI p) q (nmb N r)).length ≤ 128
  · have e : apS S l f cn N (nI p) q (nmb N r) = some (_, f, cn) := if_pos hfit
    exact k_115a_53 hM ho hl hG hW hnx hNb hr h1 h4 hp hT hfit.1 hfit.2 (fun I1 A1 f1 g1 h1 x1 b1 => kk _ _ _ e I1 A1 f1 g1 h1 x1 b1)
  · have hnf : cn = 0 ∨ 128 < mB (dD S) (f (cn - 1)) + (eBt (nI (bB (dD S) (f (cn - 1)))) (nI p) q (nmb N r)).length := by
      by_cases h0 : cn = 0
      · exact Or.inl h0
      · exact Or.inr (Nat.lt_of_not_le (fun q => hfit ⟨Nat.pos_of_ne_zero h0, q⟩))
    by_cases hfr : frS (dD S) 16 0 = -1
    · have e : apS S l f cn N (nI p) q (nmb N r) = none := (if_neg hfit).trans (if_pos hfr)
      exact k_115c_53 hM ho hl hG hW hnx hNb hr h1 h4 hp hT hnf hfr (fun I1 A1 f1 g1 b1 => kr e I1 A1 f1 g1 b1)
    · have e : apS S l f cn N (nI p) q (nmb N r) = some (_, _, cn + 1) := (if_neg hfit).trans (if_neg hfr)
      rcases frN_spec (dD S) 16 0 with h5 | h5
      · exact absurd h5.1 hfr
      · exact k_115b_53 hM ho hl hG hW hnx hNb hr h1 h4 hp hT hnf (by omega) h5.1 (fun I1 A1 f1 g1 h1 x1 b1 => kk _ _ _ e I1 A1 f1 g1 h1 x1 b1)
end S55
