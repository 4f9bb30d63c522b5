/-! Rows of writes: the class and the model. -/
/-- where the block of k ends, or e -/
def nK (k e : Nat) : Nat := if (k / 32 + 1) * 32 < e then (k / 32 + 1) * 32 else e
/-- the bytes t written to slot s from f to e, block by block, from k on -/
def spW (s f e : Nat) (t : List Nat) : Nat → Nat → List WI
  | 0, _ => []
  | z + 1, k => if k < e then wi (128 * s + k) (nK k e - k) (fun i => gB0 t (k - f + i)) :: spW s f e t z (nK k e) else []
def mkW (s m : Nat) : WI := wi (128 * s) 2 (gB0 [m / 2 ^ 8 % 256, m / 2 ^ 0 % 256])
def owW (s o : Nat) : WI := wi (128 * s + 2) 1 (gB0 [o / 2 ^ 0 % 256])
theorem minN {a b c : Nat} (ha : a < 2 ^ 31) (hb : b < 2 ^ 31) (h1 : b < a → c = b) (h2 : a ≤ b → c = a) : (if nI b < nI a then nI b else nI a) = nI c := by
  by_cases h : b < a
  · rw [if_pos ((nI_ltI hb ha).mpr h), h1 h]
  · rw [if_neg (fun q => h ((nI_ltI hb ha).mp q)), h2 (by omega)]
theorem gB0_by {l : List Nat} (h : ∀ x ∈ l, x < 256) (j : Nat) : gB0 l j < 256 := by
  unfold gB0
  by_cases hj : j < l.length
  · have e : l.getD j 0 = l[j] := by simp [hj]
    rw [e]
    exact h _ (List.getElem_mem hj)
  · have e : l.getD j 0 = 0 := by simp [List.getElem?_eq_none (Nat.le_of_not_lt hj)]
    rw [e]
    decide
section S49
variable {n u : Nat} {I : Nat → Int32} {A : Nat → Nat → Int32} {J : Int64} {B : Nat → Int64} {mk sn L : Nat} {xs : Nat → Int32} {X : Nat → mC} {D : Nat → Nat} 
set_option maxRecDepth 100000 in
set_option maxHeartbeats 4000000 in
theorem k_74 {s v : Nat} (hs : s < 16) (hv : v < 2 ^ 32) {S : DS} (hD : kD mk S I A) (ho : dO S = false) (hmk : mks mk sn) (hn : 77 ≤ n ∧ n < 10000) (hu : u + 6 < 1000000) {Q : mO × mHp → Prop} (kk : dO (wr1 S (mkW s v)) = false → ∀ I' A', Fr [2, 3, 15] I I' → Fr [0, 4] A A' → kD mk (wr1 S (mkW s v)) I' A' → Q (.inl none, hS n u I' A' J B mk sn L xs X)) (kx : dO (wr1 S (mkW s v)) = true → ∀ I' A', Up 60 I I' → Up 50 A A' → kD mk (wr1 S (mkW s v)) I' A' → Q (.inr n, hS (n + 1) (u + 6) I' A' J B mk sn L xs (va_up X n (.inr (9, []))))) : mq 74 0 [some (.ref 1), some (.int (nI s)), some (.int (nI v))] [] (hS n u I A J B mk sn L xs X) Q := by
  have ev : wr1 S (wi (128 * s) 2 (fun i => gB0 ([] ++ [v / 2 ^ 8 % 256, v / 2 ^ 0 % 256]) (0 + i))) = wr1 S (mkW s v) := wr1_ext (fun i _ => by rw [Nat.zero_add]; rfl)
  refine x_al1 (pc := 0) rfl rfl ?_
  refine g_1_8 (pc := 1) rfl rfl ?_
  refine x_k (pc := 4) rfl rfl rfl ⟨Nat.le_of_ble_eq_true rfl, Nat.le_of_ble_eq_true rfl, Nat.le_of_ble_eq_true rfl⟩ rfl (k_25_51 (I := I) (A := A) (fun I1 A1 f1 g1 h1 => ?_))
  show mq 74 7 [some (.ref 1), some (.int (nI s)), some (.int (nI v))] [] (hS n u I1 A1 J B mk sn L xs X) _
  refine x_al1 (pc := 7) rfl rfl ?_
  refine g_1_8 (pc := 8) rfl rfl ?_
  refine x_il1 (pc := 11) rfl rfl ?_
  refine x_const (pc := 12) (pc' := 13) (.int (nI 2)) rfl rfl rfl rfl ?_
  refine x_k (pc := 13) rfl rfl rfl ⟨Nat.le_of_ble_eq_true rfl, Nat.le_of_ble_eq_true rfl, Nat.le_of_ble_eq_true rfl⟩ rfl (k_26_51_2 (I := I1) (A := A1) (m := v) (l := []) h1 (by simp) (by omega) (fun I2 A2 f2 g2 h2 => ?_))
  show mq 74 16 [some (.ref 1), some (.int (nI s)), some (.int (nI v))] [] (hS n u I2 A2 J B mk sn L xs X) _
  refine x_al1 (pc := 16) rfl rfl ?_
  refine x_il1 (pc := 17) rfl rfl ?_
  refine x_const (pc := 18) (pc' := 21) (.int (nI 128)) rfl rfl rfl rfl ?_
  refine x_imulV (pc := 21) (v := nI (128 * s)) rfl ((pk_mul _ _).trans (congrArg nI (Nat.mul_comm _ _))) ?_
  refine x_al1 (pc := 22) rfl rfl ?_
  refine g_1_8 (pc := 23) rfl rfl ?_
  refine x_const (pc := 26) (pc' := 27) (.int (nI 0)) rfl rfl rfl rfl ?_
  refine x_const (pc := 27) (pc' := 28) (.int (nI 2)) rfl rfl rfl rfl ?_
  refine x_k (pc := 28) rfl rfl rfl ⟨Nat.le_of_ble_eq_true rfl, Nat.le_of_ble_eq_true rfl, Nat.le_of_ble_eq_true rfl⟩ rfl (k_28_51 (I := I2) (A := A2) (S := S) (p := 128 * s) (f := 0) (c := 2) (t := [] ++ [v / 2 ^ 8 % 256, v / 2 ^ 0 % 256]) (kD_on (kD_on hD ho f1 g1 (by decide) (by decide)) ho f2 g2 (by decide) (by decide)) ho hmk (gB0_by (by simp; omega)) (by omega) (by decide) h2 hn hu (fun o3 I3 A3 f3 g3 h3 => ?_) (fun o3 I3 A3 f3 g3 h3 => mK_x rfl (kx (ev ▸ o3) I3 A3 (Up_tr (Up_tr (Up_fr f1 (by decide)) (Up_fr f2 (by decide))) f3) (Up_tr (Up_tr (Up_fr g1 (by decide)) (Up_fr g2 (by decide))) g3) (ev ▸ h3))))
  show mq 74 31 [some (.ref 1), some (.int (nI s)), some (.int (nI v))] [] (hS n u I3 A3 J B mk sn L xs X) _
  refine x_ret (pc := 31) rfl rfl ?_
  exact kk (ev ▸ o3) I3 A3 (Fr_cons (Fr_cons (Fr_cons (Fr_refl _ _) f1 (by decide)) f2 (by decide)) f3 (by decide)) (Fr_cons (Fr_cons (Fr_cons (Fr_refl _ _) g1 (by decide)) g2 (by decide)) g3 (by decide)) (ev ▸ h3)
set_option maxRecDepth 100000 in
set_option maxHeartbeats 4000000 in
theorem k_24 {s v : Nat} (hs : s < 16) (hv : v < 2 ^ 32) {S : DS} (hD : kD mk S I A) (ho : dO S = false) (hmk : mks mk sn) (hn : 77 ≤ n ∧ n < 10000) (hu : u + 6 < 1000000) {Q : mO × mHp → Prop} (kk : dO (wr1 S (owW s v)) = false → ∀ I' A', Fr [2, 3, 15] I I' → Fr [0, 4] A A' → kD mk (wr1 S (owW s v)) I' A' → Q (.inl none, hS n u I' A' J B mk sn L xs X)) (kx : dO (wr1 S (owW s v)) = true → ∀ I' A', Up 60 I I' → Up 50 A A' → kD mk (wr1 S (owW s v)) I' A' → Q (.inr n, hS (n + 1) (u + 6) I' A' J B mk sn L xs (va_up X n (.inr (9, []))))) : mq 24 0 [some (.ref 1), some (.int (nI s)), some (.int (nI v))] [] (hS n u I A J B mk sn L xs X) Q := by
  have ev : wr1 S (wi (128 * s + 2) 1 (fun i => gB0 ([] ++ [v / 2 ^ 0 % 256]) (0 + i))) = wr1 S (owW s v) := wr1_ext (fun i _ => by rw [Nat.zero_add]; rfl)
  refine x_al1 (pc := 0) rfl rfl ?_
  refine g_1_8 (pc := 1) rfl rfl ?_
  refine x_k (pc := 4) rfl rfl rfl ⟨Nat.le_of_ble_eq_true rfl, Nat.le_of_ble_eq_true rfl, Nat.le_of_ble_eq_true rfl⟩ rfl (k_25_51 (I := I) (A := A) (fun I1 A1 f1 g1 h1 => ?_))
  show mq 24 7 [some (.ref 1), some (.int (nI s)), some (.int (nI v))] [] (hS n u I1 A1 J B mk sn L xs X) _
  refine x_al1 (pc := 7) rfl rfl ?_
  refine g_1_8 (pc := 8) rfl rfl ?_
  refine x_il1 (pc := 11) rfl rfl ?_
  refine x_const (pc := 12) (pc' := 13) (.int (nI 1)) rfl rfl rfl rfl ?_
  refine x_k (pc := 13) rfl rfl rfl ⟨Nat.le_of_ble_eq_true rfl, Nat.le_of_ble_eq_true rfl, Nat.le_of_ble_eq_true rfl⟩ rfl (k_26_51_1 (I := I1) (A := A1) (m := v) (l := []) h1 (by simp) (by omega) (fun I2 A2 f2 g2 h2 => ?_))
  show mq 24 16 [some (.ref 1), some (.int (nI s)), some (.int (nI v))] [] (hS n u I2 A2 J B mk sn L xs X) _
  refine x_al1 (pc := 16) rfl rfl ?_
  refine x_il1 (pc := 17) rfl rfl ?_
  refine x_const (pc := 18) (pc' := 21) (.int (nI 128)) rfl rfl rfl rfl ?_
  refine x_imulN (pc := 21) (c := s * 128) rfl rfl ?_
  refine x_const (pc := 22) (pc' := 23) (.int (nI 2)) rfl rfl rfl rfl ?_
  refine x_iaddV (pc := 23) (v := nI (128 * s + 2)) rfl ((nI_add _ _).trans (congrArg nI (by omega))) ?_
  refine x_al1 (pc := 24) rfl rfl ?_
  refine g_1_8 (pc := 25) rfl rfl ?_
  refine x_const (pc := 28) (pc' := 29) (.int (nI 0)) rfl rfl rfl rfl ?_
  refine x_const (pc := 29) (pc' := 30) (.int (nI 1)) rfl rfl rfl rfl ?_
  refine x_k (pc := 30) rfl rfl rfl ⟨Nat.le_of_ble_eq_true rfl, Nat.le_of_ble_eq_true rfl, Nat.le_of_ble_eq_true rfl⟩ rfl (k_28_51 (I := I2) (A := A2) (S := S) (p := 128 * s + 2) (f := 0) (c := 1) (t := [] ++ [v / 2 ^ 0 % 256]) (kD_on (kD_on hD ho f1 g1 (by decide) (by decide)) ho f2 g2 (by decide) (by decide)) ho hmk (gB0_by (by simp; omega)) (by omega) (by decide) h2 hn hu (fun o3 I3 A3 f3 g3 h3 => ?_) (fun o3 I3 A3 f3 g3 h3 => mK_x rfl (kx (ev ▸ o3) I3 A3 (Up_tr (Up_tr (Up_fr f1 (by decide)) (Up_fr f2 (by decide))) f3) (Up_tr (Up_tr (Up_fr g1 (by decide)) (Up_fr g2 (by decide))) g3) (ev ▸ h3))))
  show mq 24 33 [some (.ref 1), some (.int (nI s)), some (.int (nI v))] [] (hS n u I3 A3 J B mk sn L xs X) _
  refine x_ret (pc := 33) rfl rfl ?_
  exact kk (ev ▸ o3) I3 A3 (Fr_cons (Fr_cons (Fr_cons (Fr_refl _ _) f1 (by decide)) f2 (by decide)) f3 (by decide)) (Fr_cons (Fr_cons (Fr_cons (Fr_refl _ _) g1 (by decide)) g2 (by decide)) g3 (by decide)) (ev ▸ h3)
set_option maxRecDepth 100000 in
set_option maxHeartbeats 4000000 in
theorem l_73 {s m : Nat} {t : List Nat} (hs : s < 16) (hb : ∀ i, gB0 t i < 256) (hmk : mks mk sn) (hmt : m + t.length ≤ 128) (hn : 77 ≤ n ∧ n < 10000) (hu : u + 6 < 1000000) {Q : mO × mHp → Prop} : ∀ (z q b : Nat) {w5 w6 : Option Value} {S : DS} {I : Nat → Int32} {A : Nat → Nat → Int32}, (b + z = 4) → (q ≤ t.length) → (q < t.length → b = (m + q) / 32) → (kD mk S I A) → (dO S = false) → (Pg 14 3 128 I A t) → (dO (wrs S (spW s m (m + t.length) t z (m + q))) = false → ∀ I' A', Fr [2, 3] I I' → Fr [0] A A' → kD mk (wrs S (spW s m (m + t.length) t z (m + q))) I' A' → Q (.inl none, hS n u I' A' J B mk sn L xs X)) → (dO (wrs S (spW s m (m + t.length) t z (m + q))) = true → ∀ I' A', Up 60 I I' → Up 50 A A' → kD mk (wrs S (spW s m (m + t.length) t z (m + q))) I' A' → Q (.inr n, hS (n + 1) (u + 6) I' A' J B mk sn L xs (va_up X n (.inr (9, []))))) → mq 73 8 [some (.ref 1), some (.int (nI s)), some (.int (nI m)), some (.int (nI q)), some (.int (nI b)), w5, w6] [] (hS n u I A J B mk sn L xs X) Q := by
  intro z
  induction z with
  | zero =>
    intro q b w5 w6 S I A hz hq hbb hD ho hP kk kx
    refine x_il2 (pc := 8) rfl rfl ?_
    refine x_const (pc := 10) (pc' := 11) (.int (nI 4)) rfl rfl rfl rfl ?_
    refine x_cmpN_ge (pc := 11) (t := 84) rfl rfl (by omega) (by omega) (fun c11 => ?_) (fun c11 => ?_)
    · refine x_ret (pc := 84) rfl rfl ?_
      exact kk ho I A (Fr_refl _ _) (Fr_refl _ _) hD
    · omega
  | succ z ih =>
    intro q b w5 w6 S I A hz hq hbb hD ho hP kk kx
    refine x_il2 (pc := 8) rfl rfl ?_
    refine x_const (pc := 10) (pc' := 11) (.int (nI 4)) rfl rfl rfl rfl ?_
    refine x_cmpN_ge (pc := 11) (t := 84) rfl rfl (by omega) (by omega) (fun c11 => ?_) (fun c11 => ?_)
    · omega
    · refine x_il1 (pc := 14) rfl rfl ?_
      refine x_al1 (pc := 15) rfl rfl ?_
      refine g_1_7 (pc := 16) rfl rfl ?_
      refine g_49_1 (pc := 19) (v := nI t.length) rfl rfl hP.1 ?_
      refine x_cmpN_ge (pc := 22) (t := 84) rfl rfl (by omega) (by omega) (fun c22 => ?_) (fun c22 => ?_)
      · have ev : wrs S (spW s m (m + t.length) t (z + 1) (m + q)) = S := by
          show wrs S (if m + q < m + t.length then _ else _) = _
          rw [if_neg (by omega)]
          rfl
        refine x_ret (pc := 84) rfl rfl ?_
        exact kk (by rw [ev]; exact ho) I A (Fr_refl _ _) (Fr_refl _ _) (by rw [ev]; exact hD)
      · have hK : m + q < nK (m + q) (m + t.length) ∧ nK (m + q) (m + t.length) ≤ m + t.length ∧ nK (m + q) (m + t.length) ≤ (b + 1) * 32 ∧ ((b + 1) * 32 - (m + q) ≤ t.length - q → nK (m + q) (m + t.length) = (b + 1) * 32) ∧ (t.length - q ≤ (b + 1) * 32 - (m + q) → nK (m + q) (m + t.length) = m + t.length) := by
          have hb5 := hbb (by omega)
          unfold nK
          split <;> omega
        have eq5 : nK (m + q) (m + t.length) = m + (q + (nK (m + q) (m + t.length) - (m + q))) := by omega
        have ev : wrs S (spW s m (m + t.length) t (z + 1) (m + q)) = wrs (wr1 S (wi (128 * s + (m + q)) (nK (m + q) (m + t.length) - (m + q)) (fun i => gB0 t (q + i)))) (spW s m (m + t.length) t z (nK (m + q) (m + t.length))) := by
          show wrs S (if m + q < m + t.length then _ else _) = _
          rw [if_pos (by omega), Nat.add_sub_cancel_left]
          rfl
        refine x_il1 (pc := 25) rfl rfl ?_
        refine x_il1 (pc := 26) rfl rfl ?_
        refine x_iaddN (pc := 27) (c := m + q) rfl rfl ?_
        refine x_is2 (pc := 28) (ml' := [some (.ref 1), some (.int (nI s)), some (.int (nI m)), some (.int (nI q)), some (.int (nI b)), some (.int (nI (m + q))), w6]) rfl rfl ?_
        refine x_il2 (pc := 30) rfl rfl ?_
        refine x_const (pc := 32) (pc' := 33) (.int (nI 1)) rfl rfl rfl rfl ?_
        refine x_iaddN (pc := 33) (c := b + 1) rfl rfl ?_
        refine x_const (pc := 34) (pc' := 36) (.int (nI 32)) rfl rfl rfl rfl ?_
        refine x_imulN (pc := 36) (c := (b + 1) * 32) rfl rfl ?_
        refine x_il2 (pc := 37) rfl rfl ?_
        refine x_isubN (pc := 39) rfl ((by omega)) ?_
        refine x_al1 (pc := 40) rfl rfl ?_
        refine g_1_7 (pc := 41) rfl rfl ?_
        refine g_49_1 (pc := 44) (v := nI t.length) rfl rfl hP.1 ?_
        refine x_il1 (pc := 47) rfl rfl ?_
        refine x_isubN (pc := 48) rfl ((by omega)) ?_
        refine x_k (pc := 49) rfl rfl rfl ⟨Nat.le_of_ble_eq_true rfl, Nat.le_of_ble_eq_true rfl, Nat.le_of_ble_eq_true rfl⟩ rfl (mq_k (c_38 _ _) ?_)
        show mq 73 52 [some (.ref 1), some (.int (nI s)), some (.int (nI m)), some (.int (nI q)), some (.int (nI b)), some (.int (nI (m + q))), w6] [.int (if nI (t.length - q) < nI (((b + 1) * 32) - (m + q)) then nI (t.length - q) else nI (((b + 1) * 32) - (m + q)))] (hS n u I A J B mk sn L xs X) _
        refine x_top (y := nI (nK (m + q) (m + t.length) - (m + q))) (minN (by omega) (by omega) (fun q => by omega) (fun q => by omega)) ?_
        refine x_is2 (pc := 52) (ml' := [some (.ref 1), some (.int (nI s)), some (.int (nI m)), some (.int (nI q)), some (.int (nI b)), some (.int (nI (m + q))), some (.int (nI (nK (m + q) (m + t.length) - (m + q))))]) rfl rfl ?_
        refine x_al1 (pc := 54) rfl rfl ?_
        refine x_il1 (pc := 55) rfl rfl ?_
        refine x_const (pc := 56) (pc' := 59) (.int (nI 128)) rfl rfl rfl rfl ?_
        refine x_imulN (pc := 59) (c := s * 128) rfl rfl ?_
        refine x_il2 (pc := 60) rfl rfl ?_
        refine x_iaddV (pc := 62) (v := nI (128 * s + (m + q))) rfl ((nI_add _ _).trans (congrArg nI (by omega))) ?_
        refine x_al1 (pc := 63) rfl rfl ?_
        refine g_1_7 (pc := 64) rfl rfl ?_
        refine x_il1 (pc := 67) rfl rfl ?_
        refine x_il2 (pc := 68) rfl rfl ?_
        refine x_k (pc := 70) rfl rfl rfl ⟨Nat.le_of_ble_eq_true rfl, Nat.le_of_ble_eq_true rfl, Nat.le_of_ble_eq_true rfl⟩ rfl (k_28_49 (I := I) (A := A) (S := S) (p := 128 * s + (m + q)) (f := q) (c := nK (m + q) (m + t.length) - (m + q)) (t := t) hD ho hmk hb (by omega) (by omega) hP hn hu (fun o3 I3 A3 f3 g3 h3 => ?_) (fun o3 I3 A3 f3 g3 h3 => mK_x rfl (kx (by rw [ev, wrs_off _ o3]; exact o3) I3 A3 f3 g3 (by rw [ev, wrs_off _ o3]; exact h3))))
        show mq 73 73 [some (.ref 1), some (.int (nI s)), some (.int (nI m)), some (.int (nI q)), some (.int (nI b)), some (.int (nI (m + q))), some (.int (nI (nK (m + q) (m + t.length) - (m + q))))] [] (hS n u I3 A3 J B mk sn L xs X) _
        refine x_il1 (pc := 73) rfl rfl ?_
        refine x_il2 (pc := 74) rfl rfl ?_
        refine x_iaddN (pc := 76) (c := q + (nK (m + q) (m + t.length) - (m + q))) rfl rfl ?_
        refine x_is1 (pc := 77) (ml' := [some (.ref 1), some (.int (nI s)), some (.int (nI m)), some (.int (nI (q + (nK (m + q) (m + t.length) - (m + q))))), some (.int (nI b)), some (.int (nI (m + q))), some (.int (nI (nK (m + q) (m + t.length) - (m + q))))]) rfl rfl ?_
        refine x_iincN (pc := 78) (c := 1) (ml' := [some (.ref 1), some (.int (nI s)), some (.int (nI m)), some (.int (nI (q + (nK (m + q) (m + t.length) - (m + q))))), some (.int (nI (b + 1))), some (.int (nI (m + q))), some (.int (nI (nK (m + q) (m + t.length) - (m + q))))]) rfl rfl rfl rfl ?_
        refine x_step (pc := 81) (pc' := 8) rfl rfl rfl rfl ?_
        refine ih (q + (nK (m + q) (m + t.length) - (m + q))) (b + 1) (S := wr1 S (wi (128 * s + (m + q)) (nK (m + q) (m + t.length) - (m + q)) (fun i => gB0 t (q + i)))) (I := I3) (A := A3) (by omega) (by omega) (by unfold nK; split <;> omega) h3 o3 (Pg_fr hP f3 g3 (by decide) (by decide)) (fun o4 I4 A4 f4 g4 h4 => ?_) (fun o4 I4 A4 f4 g4 h4 => ?_)
        · rw [← eq5] at o4 h4
          exact kk (by rw [ev]; exact o4) I4 A4 (Fr_cons f3 f4 (by decide)) (Fr_cons g3 g4 (by decide)) (by rw [ev]; exact h4)
        · rw [← eq5] at o4 h4
          exact kx (by rw [ev]; exact o4) I4 A4 (Up_tr (Up_fr f3 (by decide)) f4) (Up_tr (Up_fr g3 (by decide)) g4) (by rw [ev]; exact h4)
/-- more turns than blocks change nothing -/
theorem spW_more {s f e : Nat} {t : List Nat} : ∀ (z k : Nat), (k < e → e ≤ (k / 32 + z) * 32) → spW s f e t (z + 1) k = spW s f e t z k
  | 0, k, h => by
    show (if k < e then _ else _) = _
    rw [if_neg (fun q => absurd (h q) (by omega))]
    rfl
  | z + 1, k, h => by
    show (if k < e then _ :: spW s f e t (z + 1) (nK k e) else _) = (if k < e then _ :: spW s f e t z (nK k e) else _)
    rw [spW_more z (nK k e) (fun q => by unfold nK at q ⊢; split at q <;> rename_i h1 <;> first | (rw [if_pos h1]; have := h (by omega); omega) | omega)]
theorem spW_4 {s f e m z : Nat} {t : List Nat} (h : m / 32 + z = 4 ∧ e ≤ 128) : spW s f e t 4 m = spW s f e t z m := by
  have h1 : ∀ y, z + y ≤ 4 → spW s f e t (z + y) m = spW s f e t z m := by
    intro y
    induction y with
    | zero => exact fun _ => rfl
    | succ y ih =>
      intro hy
      rw [← ih (by omega)]
      exact spW_more (z + y) m (fun q => by omega)
  have h2 := h1 (4 - z) (by omega)
  rw [show z + (4 - z) = 4 by omega] at h2
  exact h2
set_option maxRecDepth 100000 in
set_option maxHeartbeats 4000000 in
theorem k_73 {s m : Nat} {t : List Nat} (hs : s < 16) (hb : ∀ i, gB0 t i < 256) (hmt : m + t.length ≤ 128) (hP : Pg 14 3 128 I A t) {S : DS} (hD : kD mk S I A) (ho : dO S = false) (hmk : mks mk sn) (hn : 77 ≤ n ∧ n < 10000) (hu : u + 6 < 1000000) {Q : mO × mHp → Prop} (kk : dO (wrs S (spW s m (m + t.length) t 4 m)) = false → ∀ I' A', Fr [2, 3] I I' → Fr [0] A A' → kD mk (wrs S (spW s m (m + t.length) t 4 m)) I' A' → Q (.inl none, hS n u I' A' J B mk sn L xs X)) (kx : dO (wrs S (spW s m (m + t.length) t 4 m)) = true → ∀ I' A', Up 60 I I' → Up 50 A A' → kD mk (wrs S (spW s m (m + t.length) t 4 m)) I' A' → Q (.inr n, hS (n + 1) (u + 6) I' A' J B mk sn L xs (va_up X n (.inr (9, []))))) : mq 73 0 [some (.ref 1), some (.int (nI s)), some (.int (nI m)), none, none, none, none] [] (hS n u I A J B mk sn L xs X) Q := by
  refine x_const (pc := 0) (pc' := 1) (.int (nI 0)) rfl rfl rfl rfl ?_
  refine x_is1 (pc := 1) (ml' := [some (.ref 1), some (.int (nI s)), some (.int (nI m)), some (.int (nI 0)), none, none, none]) rfl rfl ?_
  refine x_il1 (pc := 2) rfl rfl ?_
  refine x_const (pc := 3) (pc' := 5) (.int (nI 32)) rfl rfl rfl rfl ?_
  refine x_idivV (pc := 5) (v := nI (m / 32)) rfl (by decide) (pk_div (by omega) (by decide) (by decide)) ?_
  refine x_is2 (pc := 6) (ml' := [some (.ref 1), some (.int (nI s)), some (.int (nI m)), some (.int (nI 0)), some (.int (nI (m / 32))), none, none]) rfl rfl ?_
  by_cases hm4 : m / 32 ≤ 3
  · obtain ⟨z, hz⟩ : ∃ z, m / 32 + z = 4 := ⟨4 - m / 32, by omega⟩
    refine l_73 hs hb hmk hmt hn hu z 0 (m / 32) hz (Nat.zero_le _) (fun _ => rfl) hD ho hP ?_ ?_
    all_goals rw [Nat.add_zero, ← spW_4 (by omega)]
    · exact kk
    · exact kx
  · have ht : t.length = 0 := by omega
    have hm : m = 128 := by omega
    subst hm
    refine l_73 hs hb hmk hmt hn hu 0 0 4 rfl (Nat.zero_le _) (fun q => by omega) hD ho hP ?_ ?_
    all_goals
      have e : spW s 128 (128 + t.length) t 4 128 = spW s 128 (128 + t.length) t 0 (128 + 0) := by
        show (if 128 < 128 + t.length then _ else _) = _
        rw [if_neg (by omega)]
        rfl
      rw [← e]
    · exact kk
    · exact kx
end S49
