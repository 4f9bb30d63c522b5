/-! clean: the class. -/
theorem kc_ext {g : Nat → R5} {p p' : Nat → Bool} : ∀ {n : Nat}, (∀ k, k < n → p k = p' k) → kc g p n = kc g p' n
  | 0, _ => rfl
  | n + 1, h => by
    show (if p n = true then kc g p n else kc g p n ++ [g n]) = (if p' n = true then kc g p' n else kc g p' n ++ [g n])
    rw [kc_ext (fun k hk => h k (by omega)), h n (by omega)]
theorem cT_ext {D : Nat → Nat} {s : Nat} {P P' : Nat → Nat → Bool} : ∀ {c : Nat}, (∀ j, j < c → ∀ k, k < bN D (sb D s j) → P j k = P' j k) → cT D s P c = cT D s P' c ∧ cO D s P c = cO D s P' c
  | 0, _ => ⟨rfl, rfl⟩
  | c + 1, h => by
    have ih := cT_ext (D := D) (s := s) (P := P) (P' := P') (c := c) (fun j hj => h j (by omega))
    have e : kB D s (P c) c = kB D s (P' c) c := kc_ext (h c (by omega))
    refine ⟨?_, ?_⟩
    · show (if (kB D s (P c) c).length = 0 then cT D s P c else cT D s P c ++ eBt (nI (bB D s)) (nI (bP D (sb D s c))) (bS D (sb D s c)) (kB D s (P c) c)) = (if (kB D s (P' c) c).length = 0 then cT D s P' c else cT D s P' c ++ eBt (nI (bB D s)) (nI (bP D (sb D s c))) (bS D (sb D s c)) (kB D s (P' c) c))
      rw [e, ih.1]
    · show cO D s P c + (bN D (sb D s c) - (kB D s (P c) c).length) = cO D s P' c + (bN D (sb D s c) - (kB D s (P' c) c).length)
      rw [e, ih.2]
theorem cF_ext {D : Nat → Nat} {s c : Nat} {P P' : Nat → Nat → Bool} (h : ∀ j, j < c → ∀ k, k < bN D (sb D s j) → P j k = P' j k) : cF D s P c = cF D s P' c := by
  unfold cF
  rw [(cT_ext h).1]
theorem cO_le (D : Nat → Nat) (s : Nat) (P : Nat → Nat → Bool) : ∀ c, cO D s P c ≤ (sRs D s c).length
  | 0 => Nat.le_refl 0
  | c + 1 => by
    have h := cO_le D s P c
    rw [sRs_succ, List.length_append, bRs_len]
    show cO D s P c + (bN D (sb D s c) - _) ≤ _
    omega
theorem m1_le (x : Nat) (h : x < 2 ^ 31) : (-1 : Int32) ≤ nI x := by
  apply Int32.le_iff_toInt_le.mpr
  have h1 : (nI x).toInt = x := nI_toInt h
  have h3 : (-1 : Int32).toInt = -1 := rfl
  rw [h1, h3]
  omega
/-- a cleaning: disk, slots, batches, segments, how many records are left out -/
def cl (l : Nat) (lim : Int64) : Nat → DS → (Nat → Nat) → (Nat → Nat) → Nat → Nat → Nat → DS × (Nat → Nat) × (Nat → Nat) × Nat × Nat
  | 0, S, f, bc, n, _, v => (S, f, bc, n, v)
  | z + 1, S, f, bc, n, i, v =>
    if dO S = true ∨ ¬ i + 1 < n then (S, f, bc, n, v)
    else if cO (dD S) (f i) (pm (dD S) f bc n lim (f i)) (bc (f i)) = 0 then cl l lim z S f bc n (i + 1) v
    else if (cF (dD S) (f i) (pm (dD S) f bc n lim (f i)) (bc (f i))).length = 8 then cl l lim z (wr1 S (owW (f i) 0)) (rmF f i) bc (n - 1) i (v + cO (dD S) (f i) (pm (dD S) f bc n lim (f i)) (bc (f i)))
    else if 128 < (cF (dD S) (f i) (pm (dD S) f bc n lim (f i)) (bc (f i))).length ∨ frS (dD S) 16 0 = -1 then (S, f, bc, n, v)
    else cl l lim z (wrs S (mvW (frN (dD S) 16 0) l (f i) (cF (dD S) (f i) (pm (dD S) f bc n lim (f i)) (bc (f i))))) (fun k => if k = i then frN (dD S) 16 0 else f k) (fun x => if x = frN (dD S) 16 0 then cC (dD S) (f i) (pm (dD S) f bc n lim (f i)) (bc (f i)) else bc x) n (i + 1) (v + cO (dD S) (f i) (pm (dD S) f bc n lim (f i)) (bc (f i)))
theorem cl_off {l : Nat} {lim : Int64} {S : DS} {f bc : Nat → Nat} {n i v : Nat} (h : dO S = true) : ∀ z, cl l lim z S f bc n i v = (S, f, bc, n, v)
  | 0 => rfl
  | z + 1 => if_pos (Or.inl h)
theorem ow_SmS {D : Nat → Nat} {s t : Nat} (g : Nat → Nat) : SmS D (dW D (128 * s + 2) 1 g) t := fun _ hi h2 _ => ow_x g hi h2
/-- a log after a removal, after a move -/
theorem WL_cl_rm {D : Nat → Nat} {l n N i : Nat} {f bc : Nat → Nat} (h : WL D l f bc n N) (hi : i + 1 < n) : WL (dW D (128 * f i + 2) 1 (gB0 [0 / 2 ^ 0 % 256])) l (rmF f i) bc (n - 1) N := WL_rm h hi (by rw [ow_o (v := 0) _ rfl, if_pos rfl]) (fun t _ ht => by rw [ow_o (v := 0) _ rfl, if_neg ht]) (fun t _ _ => ow_SmS _)
theorem WL_cl_mv {D : Nat → Nat} {l n N i r : Nat} {f bc : Nat → Nat} {P : Nat → Nat → Bool} (h : WL D l f bc n N) (hl : l < 4) (hi : i + 1 < n) (hr : r < 16) (hr0 : oB D r = 0) (h8 : ¬ (cF D (f i) P (bc (f i))).length = 8) (h128 : (cF D (f i) P (bc (f i))).length ≤ 128) : WL (dWs D (mvW r l (f i) (cF D (f i) P (bc (f i))))) l (fun k => if k = i then r else f k) (fun x => if x = r then cC D (f i) P (bc (f i)) else bc x) n N := by
  have hfi := h.1.1 i (by omega)
  have hne : ¬ r = f i := fun q => by
    rw [q, hfi.2.1] at hr0
    omega
  have hm := mv_D (D := D) (l := l) (t := cF D (f i) P (bc (f i))) hr hfi.1 hne hl h128
  have hW := h.2.1 i (by omega)
  rw [cF_len] at h8 h128
  have hb := cF_back (D' := dWs D (mvW r l (f i) (cF D (f i) P (bc (f i))))) (r := r) hW P (by have := hfi.2.2; omega) h128 (fun x hx h2 => hm.1 x (by rw [cF_len]; exact hx) h2)
  refine WL_mv h hi hr hr0 hm.2.2.1 hm.2.1 hm.2.2.2.1 (fun t ht h1 h2 x hx hx2 _ => hm.2.2.2.2 t ht h2 x hx hx2) hb.1 hb.2.1 ?_ ?_
  · rw [hb.2.2.1]
    exact kS_sub _ _ _ _
  · rw [hb.2.2.1]
    exact fun q => h8 (kS_nil.mpr q)
section S72
variable {n u : Nat} {I : Nat → Int32} {A : Nat → Nat → Int32} {J : Int64} {B : Nat → Int64} {mk sn L : Nat} {xs : Nat → Int32} {X : Nat → mC} {D : Nat → Nat} 
set_option maxRecDepth 100000 in
set_option maxHeartbeats 4000000 in
theorem k_93x (h0 : I 0 = nI 0) {l t : Int32} (hn : 77 ≤ n ∧ n < 10000) (hu : u + 6 < 1000000) {Q : mO × mHp → Prop} (kk : Q (.inr n, hS (n + 1) (u + 6) I A J B mk sn L xs (va_up X n (.inr (9, []))))) : mq 93 0 [some (.ref 1), some (.int l), some (.int t), none, none, none, none, none, none] [] (hS n u I A J B mk sn L xs X) Q := by
  refine x_al1 (pc := 0) rfl rfl ?_
  refine x_k (pc := 1) rfl rfl rfl ⟨Nat.le_of_ble_eq_true rfl, Nat.le_of_ble_eq_true rfl, Nat.le_of_ble_eq_true rfl⟩ rfl (k_60x (I := I) h0 hn hu (mK_x rfl kk))
set_option maxRecDepth 100000 in
set_option maxHeartbeats 4000000 in
theorem k_93b {S : DS} (hD : kD mk S I A) (ho : dO S = false) {l t : Int32} (hx : l < nI 2 ∨ nI 4 ≤ l) (hn : 77 ≤ n ∧ n < 10000) (hu : u + 6 < 1000000) {Q : mO × mHp → Prop} (kk : Q (.inr n, hS (n + 1) (u + 6) I A J B mk sn L xs (va_up X n (.inr (10, []))))) : mq 93 0 [some (.ref 1), some (.int l), some (.int t), none, none, none, none, none, none] [] (hS n u I A J B mk sn L xs X) Q := by
  refine x_al1 (pc := 0) rfl rfl ?_
  refine x_k (pc := 1) rfl rfl rfl ⟨Nat.le_of_ble_eq_true rfl, Nat.le_of_ble_eq_true rfl, Nat.le_of_ble_eq_true rfl⟩ rfl (k_60 (I := I) (kD_1 hD ho) ?_)
  show mq 93 4 [some (.ref 1), some (.int l), some (.int t), none, none, none, none, none, none] [] (hS n u I A J B mk sn L xs X) _
  refine x_il1 (pc := 4) rfl rfl ?_
  refine x_const (pc := 5) (pc' := 6) (.int (nI 2)) rfl rfl rfl rfl ?_
  refine x_cmp_lt (pc := 6) (t := 14) rfl rfl rfl (fun c6 => ?_) (fun c6 => ?_)
  · refine x_thr (pc := 14) rfl rfl hn hu rfl ⟨Nat.le_of_ble_eq_true rfl, Nat.le_of_ble_eq_true rfl⟩ ?_
    exact kk
  · refine x_il1 (pc := 9) rfl rfl ?_
    refine x_const (pc := 10) (pc' := 11) (.int (nI 4)) rfl rfl rfl rfl ?_
    refine x_cmp_lt (pc := 11) (t := 24) rfl rfl rfl (fun c11 => ?_) (fun c11 => ?_)
    · rcases hx with h | h
      · exact absurd h c6
      · exact absurd c11 (Int32.not_lt.mpr h)
    · refine x_thr (pc := 14) rfl rfl hn hu rfl ⟨Nat.le_of_ble_eq_true rfl, Nat.le_of_ble_eq_true rfl⟩ ?_
      exact kk
set_option maxRecDepth 100000 in
set_option maxHeartbeats 4000000 in
theorem l_93_2 {N : Nat} {t : Int32} {Z : List R5} (hmk : mks mk sn) (hn : 77 ≤ n ∧ n < 10000) (hu : u + 6 < 1000000) {Q : mO × mHp → Prop} : ∀ (z rd v x cn a : Nat) {P0 : List R5} {S : DS} {f bc : Nat → Nat} (w7 w8 : Option Value) {I : Nat → Int32} {A : Nat → Nat → Int32}, (rd + z = 16) → (cn ≤ x + z + 1) → (x ≤ 16) → (kD mk S I A) → (dO S = false) → (WL (dD S) 2 f bc cn N) → (N ≤ 2 ^ 31) → (v + 30 * z ≤ 480) → (P0.length = a) → (Z = P0 ++ sf (dD S) f bc (cn - x) x) → (Z.length ≤ 512) → (SV I A Z) → (I 13 = nI a) → (I 46 = nI cn) → (∀ j, j < cn → A 38 j = nI (f j)) → (dO (cl 2 J z S f bc cn x v).1 = false → ∀ I' A', Fr [2, 3, 4, 5, 6, 7, 8, 9, 10, 13, 14, 15, 20, 21, 22, 23, 24, 25, 46] I I' → Fr [0, 3, 4, 10, 11, 12, 13, 14, 15, 16, 17, 18, 19, 38] A A' → kD mk (cl 2 J z S f bc cn x v).1 I' A' → I' 46 = nI (cl 2 J z S f bc cn x v).2.2.2.1 → (∀ j, j < (cl 2 J z S f bc cn x v).2.2.2.1 → A' 38 j = nI ((cl 2 J z S f bc cn x v).2.1 j)) → Q (.inl (some (.int (nI (cl 2 J z S f bc cn x v).2.2.2.2))), hS n u I' A' J B mk sn L xs X)) → (dO (cl 2 J z S f bc cn x v).1 = true → ∀ I' A', Up 60 I I' → Up 50 A A' → kD mk (cl 2 J z S f bc cn x v).1 I' A' → Q (.inr n, hS (n + 1) (u + 6) I' A' J B mk sn L xs (va_up X n (.inr (9, []))))) → mq 93 51 [some (.ref 1), some (.int (nI 2)), some (.int t), some (.ref 23), some (.int (nI v)), some (.int (nI x)), some (.int (nI rd)), w7, w8] [] (hS n u I A J B mk sn L xs X) Q := by
  intro z
  induction z with
  | zero =>
    intro rd v x cn a P0 S f bc w7 w8 I A hz hcz hx16 hD ho hWL hN hv hP0 hZ hZ5 hS0 h13 hc hsl kk kx
    refine x_il2 (pc := 51) rfl rfl ?_
    refine x_const (pc := 53) (pc' := 55) (.int (nI 16)) rfl rfl rfl rfl ?_
    refine x_cmpN_ge (pc := 55) (t := 153) rfl rfl (by omega) (by omega) (fun c55 => ?_) (fun c55 => ?_)
    · refine x_il2 (pc := 153) rfl rfl ?_
      refine x_ret (pc := 155) rfl rfl ?_
      exact kk ho I A (Fr_refl _ _) (Fr_refl _ _) hD hc hsl
    · omega
  | succ z ih =>
    intro rd v x cn a P0 S f bc w7 w8 I A hz hcz hx16 hD ho hWL hN hv hP0 hZ hZ5 hS0 h13 hc hsl kk kx
    have hcn16 := SG_le hWL.1
    rcases Nat.eq_zero_or_pos cn with hc0 | hcp
    · refine x_il2 (pc := 51) rfl rfl ?_
      refine x_const (pc := 53) (pc' := 55) (.int (nI 16)) rfl rfl rfl rfl ?_
      refine x_cmpN_ge (pc := 55) (t := 153) rfl rfl (by omega) (by omega) (fun c55 => ?_) (fun c55 => ?_)
      · omega
      · refine x_il2 (pc := 58) rfl rfl ?_
        refine x_al1 (pc := 60) rfl rfl ?_
        refine g_23_5 (pc := 61) (v := nI cn) rfl rfl hc ?_
        refine x_const (pc := 64) (pc' := 65) (.int (nI 1)) rfl rfl rfl rfl ?_
        refine x_isubV (pc := 65) (v := (-1)) rfl (by rw [hc0]; decide) ?_
        refine x_cmp_ge (pc := 66) (t := 153) rfl rfl rfl (fun c66 => ?_) (fun c66 => ?_)
        · have ev : cl 2 J (z + 1) S f bc cn x v = (S, f, bc, cn, v) := if_pos (Or.inr (by omega))
          rw [ev] at kk
          refine x_il2 (pc := 153) rfl rfl ?_
          refine x_ret (pc := 155) rfl rfl ?_
          exact kk ho I A (Fr_refl _ _) (Fr_refl _ _) hD hc hsl
        · exact absurd (m1_le x (by omega)) c66
    · refine x_il2 (pc := 51) rfl rfl ?_
      refine x_const (pc := 53) (pc' := 55) (.int (nI 16)) rfl rfl rfl rfl ?_
      refine x_cmpN_ge (pc := 55) (t := 153) rfl rfl (by omega) (by omega) (fun c55 => ?_) (fun c55 => ?_)
      · omega
      · refine x_il2 (pc := 58) rfl rfl ?_
        refine x_al1 (pc := 60) rfl rfl ?_
        refine g_23_5 (pc := 61) (v := nI cn) rfl rfl hc ?_
        refine x_const (pc := 64) (pc' := 65) (.int (nI 1)) rfl rfl rfl rfl ?_
        refine x_isubN (pc := 65) rfl ((by omega)) ?_
        refine x_cmpN_ge (pc := 66) (t := 153) rfl rfl (by omega) (by omega) (fun c66 => ?_) (fun c66 => ?_)
        · have ev : cl 2 J (z + 1) S f bc cn x v = (S, f, bc, cn, v) := if_pos (Or.inr (by omega))
          rw [ev] at kk
          refine x_il2 (pc := 153) rfl rfl ?_
          refine x_ret (pc := 155) rfl rfl ?_
          exact kk ho I A (Fr_refl _ _) (Fr_refl _ _) hD hc hsl
        · have hfx := hWL.1.1 x (by omega)
          have hYc : sf (dD S) f bc (cn - x) x = sRs (dD S) (f x) (bc (f x)) ++ sf (dD S) f bc (cn - x - 1) (x + 1) := by
            obtain ⟨y, hy⟩ : ∃ y, cn - x = y + 1 := ⟨cn - x - 1, by omega⟩
            rw [hy, Nat.add_sub_cancel]
            rfl
          have hYl : (sf (dD S) f bc (cn - x) x).length = (sRs (dD S) (f x) (bc (f x))).length + (sf (dD S) f bc (cn - x - 1) (x + 1)).length := by rw [hYc, List.length_append]
          have hZl : a + (sRs (dD S) (f x) (bc (f x))).length ≤ Z.length := by
            rw [hZ, List.length_append, hP0, hYl]
            omega
          have hpe : ∀ j, j < bc (f x) → ∀ k, k < bN (dD S) (sb (dD S) (f x) j) → (fun j k => lo (P0 ++ sf (dD S) f bc (cn - x) x) J (a + (sRs (dD S) (f x) j).length + k) (tR (dD S) (sb (dD S) (f x) j) k) (dR (dD S) (sb (dD S) (f x) j) k)) j k = (pm (dD S) f bc cn J (f x)) j k := fun j hj k hk => pm_lo hWL.2.2 (by omega) hN hP0 hj hk
          have eO : cO (dD S) (f x) (fun j k => lo (P0 ++ sf (dD S) f bc (cn - x) x) J (a + (sRs (dD S) (f x) j).length + k) (tR (dD S) (sb (dD S) (f x) j) k) (dR (dD S) (sb (dD S) (f x) j) k)) (bc (f x)) = cO (dD S) (f x) (pm (dD S) f bc cn J (f x)) (bc (f x)) := (cT_ext hpe).2
          have eF : cF (dD S) (f x) (fun j k => lo (P0 ++ sf (dD S) f bc (cn - x) x) J (a + (sRs (dD S) (f x) j).length + k) (tR (dD S) (sb (dD S) (f x) j) k) (dR (dD S) (sb (dD S) (f x) j) k)) (bc (f x)) = cF (dD S) (f x) (pm (dD S) f bc cn J (f x)) (bc (f x)) := cF_ext hpe
          obtain ⟨co, hco⟩ : ∃ q, q = cO (dD S) (f x) (pm (dD S) f bc cn J (f x)) (bc (f x)) := ⟨_, rfl⟩
          obtain ⟨tt, htt⟩ : ∃ q, q = cF (dD S) (f x) (pm (dD S) f bc cn J (f x)) (bc (f x)) := ⟨_, rfl⟩
          have hco30 : co ≤ 30 := by
            rw [hco]
            exact Nat.le_trans (cO_le _ _ _ _) (sRs_30 (hWL.2.1 x (by omega)))
          have htt9 : tt.length ≤ 564 := by
            rw [htt, cF_len]
            exact cT_600 (hWL.2.1 x (by omega)) _ (Nat.le_refl _)
          refine x_al1 (pc := 69) rfl rfl ?_
          refine g_23_1 (pc := 70) rfl rfl ?_
          refine x_il2 (pc := 73) rfl rfl ?_
          refine al_24 (pc := 75) (q := x) (v := nI (f x)) rfl rfl (by omega) (hsl x (by omega)) ?_
          refine x_is2 (pc := 76) (ml' := [some (.ref 1), some (.int (nI 2)), some (.int t), some (.ref 23), some (.int (nI v)), some (.int (nI x)), some (.int (nI rd)), some (.int (nI (f x))), w8]) rfl rfl ?_
          refine x_al1 (pc := 78) rfl rfl ?_
          refine x_il2 (pc := 79) rfl rfl ?_
          refine x_k (pc := 81) rfl rfl rfl ⟨Nat.le_of_ble_eq_true rfl, Nat.le_of_ble_eq_true rfl, Nat.le_of_ble_eq_true rfl⟩ rfl (k_97 (I := I) (A := A) (D := dD S) (s := f x) (c := bc (f x)) (a := a) (Z := P0 ++ sf (dD S) f bc (cn - x) x) hD.2.1 hfx.1 (hWL.2.1 x (by omega)) (by rw [← hZ]; exact hZ5) (by rw [List.length_append, hP0, hYl]; omega) h13 (by rw [← hZ]; exact hS0) (by have := hfx.2.2; omega) (fun I1 A1 f1 g1 x1 h1 => ?_))
          show mq 93 84 [some (.ref 1), some (.int (nI 2)), some (.int t), some (.ref 23), some (.int (nI v)), some (.int (nI x)), some (.int (nI rd)), some (.int (nI (f x))), w8] [.int (nI (cO (dD S) (f x) (fun j k => lo (P0 ++ sf (dD S) f bc (cn - x) x) J (a + (sRs (dD S) (f x) j).length + k) (tR (dD S) (sb (dD S) (f x) j) k) (dR (dD S) (sb (dD S) (f x) j) k)) (bc (f x))))] (hS n u I1 A1 J B mk sn L xs X) _
          refine x_top (y := nI co) (congrArg nI (eO.trans hco.symm)) ?_
          refine x_is2 (pc := 84) (ml' := [some (.ref 1), some (.int (nI 2)), some (.int t), some (.ref 23), some (.int (nI v)), some (.int (nI x)), some (.int (nI rd)), some (.int (nI (f x))), some (.int (nI co))]) rfl rfl ?_
          have h1p : Pg 14 3 128 I1 A1 tt := by
            rw [htt, ← eF]
            exact h1
          refine x_il2 (pc := 86) rfl rfl ?_
          refine x_ifN_le (pc := 88) (t := 119) rfl rfl (by omega) (fun c88 => ?_) (fun c88 => ?_)
          · refine x_il2 (pc := 119) rfl rfl ?_
            refine x_ifN_le (pc := 121) (t := 137) rfl rfl (by omega) (fun c121 => ?_) (fun c121 => ?_)
            · refine x_iincN (pc := 137) (c := 1) (ml' := [some (.ref 1), some (.int (nI 2)), some (.int t), some (.ref 23), some (.int (nI v)), some (.int (nI (x + 1))), some (.int (nI rd)), some (.int (nI (f x))), some (.int (nI co))]) rfl rfl rfl rfl ?_
              refine x_il2 (pc := 140) rfl rfl ?_
              refine x_il2 (pc := 142) rfl rfl ?_
              refine x_iaddN (pc := 144) (c := v + co) rfl rfl ?_
              refine x_is2 (pc := 145) (ml' := [some (.ref 1), some (.int (nI 2)), some (.int t), some (.ref 23), some (.int (nI (v + co))), some (.int (nI (x + 1))), some (.int (nI rd)), some (.int (nI (f x))), some (.int (nI co))]) rfl rfl ?_
              refine x_iincN (pc := 147) (c := 1) (ml' := [some (.ref 1), some (.int (nI 2)), some (.int t), some (.ref 23), some (.int (nI (v + co))), some (.int (nI (x + 1))), some (.int (nI (rd + 1))), some (.int (nI (f x))), some (.int (nI co))]) rfl rfl rfl rfl ?_
              refine x_step (pc := 150) (pc' := 51) rfl rfl rfl rfl ?_
              have F : Fr [2, 3, 4, 5, 6, 7, 8, 9, 10, 13, 14, 15, 20, 21, 22, 23, 24, 25, 46] I (I1) := (Fr_cons (Fr_refl _ _) f1 (by decide))
              have G : Fr [0, 3, 4, 10, 11, 12, 13, 14, 15, 16, 17, 18, 19, 38] A (A1) := (Fr_cons (Fr_refl _ _) g1 (by decide))
              have hnst : ¬ (dO S = true ∨ ¬ x + 1 < cn) := fun q => q.elim (fun q => Bool.noConfusion (ho.symm.trans q)) (fun q => q (by omega))
              have ev : cl 2 J (z + 1) S f bc cn x v = cl 2 J z S f bc cn (x + 1) v := by
                show (if _ then _ else if _ then _ else _) = _
                rw [if_neg hnst, if_pos (by rw [← hco]; omega)]
              have ec : v + co = v := by omega
              rw [ec]
              refine ih (rd + 1) v (x + 1) cn (a + (sRs (dD S) (f x) (bc (f x))).length) (P0 := P0 ++ sRs (dD S) (f x) (bc (f x))) _ _ (I := I1) (A := A1) (by omega) (by omega) (by omega) (kD_on hD ho f1 g1 (by decide) (by decide)) ho hWL hN (by omega) (by rw [List.length_append, hP0]) (by rw [hZ, hYc, List.append_assoc, show cn - (x + 1) = cn - x - 1 by omega]) hZ5 (SV_fr hS0 f1 g1 (by decide) (by decide)) x1 ((f1 46 (by decide)).trans hc) (fun j hj => by rw [g1 38 (by decide)]; exact hsl j hj) (fun o4 I4 A4 f4 g4 h4 x4 y4 => ?_) (fun o4 I4 A4 f4 g4 h4 => ?_)
              · rw [ev] at kk
                exact kk o4 I4 A4 (Fr_cons F f4 (by decide)) (Fr_cons G g4 (by decide)) h4 x4 y4
              · rw [ev] at kx
                exact kx o4 I4 A4 (Up_tr (Up_fr F (by decide)) f4) (Up_tr (Up_fr G (by decide)) g4) h4
            · omega
          · have hnst : ¬ (dO S = true ∨ ¬ x + 1 < cn) := fun q => q.elim (fun q => Bool.noConfusion (ho.symm.trans q)) (fun q => q (by omega))
            have hco0 : ¬ cO (dD S) (f x) (pm (dD S) f bc cn J (f x)) (bc (f x)) = 0 := by rw [← hco]; omega
            refine x_al1 (pc := 91) rfl rfl ?_
            refine g_1_7 (pc := 92) rfl rfl ?_
            refine g_49_1 (pc := 95) (v := nI tt.length) rfl rfl h1p.1 ?_
            refine x_const (pc := 98) (pc' := 100) (.int (nI 8)) rfl rfl rfl rfl ?_
            refine x_cmpN_ne (pc := 100) (t := 119) rfl rfl (by omega) (by omega) (fun c100 => ?_) (fun c100 => ?_)
            · have h8n : ¬ (cF (dD S) (f x) (pm (dD S) f bc cn J (f x)) (bc (f x))).length = 8 := by rw [← htt]; exact c100
              refine x_il2 (pc := 119) rfl rfl ?_
              refine x_ifN_le (pc := 121) (t := 137) rfl rfl (by omega) (fun c121 => ?_) (fun c121 => ?_)
              · omega
              · by_cases hno : 128 < (cF (dD S) (f x) (pm (dD S) f bc cn J (f x)) (bc (f x))).length ∨ frS (dD S) 16 0 = -1
                · have ev : cl 2 J (z + 1) S f bc cn x v = (S, f, bc, cn, v) := by
                    show (if _ then _ else if _ then _ else if _ then _ else if _ then _ else _) = _
                    rw [if_neg hnst, if_neg hco0, if_neg h8n, if_pos hno]
                  rw [ev] at kk
                  refine x_al1 (pc := 124) rfl rfl ?_
                  refine x_al1 (pc := 125) rfl rfl ?_
                  refine x_il2 (pc := 126) rfl rfl ?_
                  refine x_k (pc := 128) rfl rfl rfl ⟨Nat.le_of_ble_eq_true rfl, Nat.le_of_ble_eq_true rfl, Nat.le_of_ble_eq_true rfl⟩ rfl (k_102n_2 (I := I1) (A := A1) (S := S) (f := f) (t := tt) (kD_on hD ho f1 g1 (by decide) (by decide)) ho h1p (by omega) (by rw [g1 38 (by decide)]; exact hsl x (by omega)) (hno.elim (fun q => Or.inr (by rw [htt]; exact q)) Or.inl) (by omega) ?_)
                  show mq 93 131 [some (.ref 1), some (.int (nI 2)), some (.int t), some (.ref 23), some (.int (nI v)), some (.int (nI x)), some (.int (nI rd)), some (.int (nI (f x))), some (.int (nI co))] [.int (nI 0)] (hS n u I1 A1 J B mk sn L xs X) _
                  refine x_ifN_ne (pc := 131) (t := 137) rfl rfl (by decide) (fun c => absurd c (by decide)) (fun _ => ?_)
                  refine x_step (pc := 134) (pc' := 153) rfl rfl rfl rfl ?_
                  refine x_il2 (pc := 153) rfl rfl ?_
                  refine x_ret (pc := 155) rfl rfl ?_
                  exact kk ho I1 A1 (Fr_cons (Fr_refl _ _) f1 (by decide)) (Fr_cons (Fr_refl _ _) g1 (by decide)) (kD_on hD ho f1 g1 (by decide) (by decide)) ((f1 46 (by decide)).trans hc) (fun j hj => by rw [g1 38 (by decide)]; exact hsl j hj)
                · obtain ⟨rr, hrre⟩ : ∃ q, q = frN (dD S) 16 0 := ⟨_, rfl⟩
                  have ev : cl 2 J (z + 1) S f bc cn x v = cl 2 J z (wrs S (mvW rr 2 (f x) (cF (dD S) (f x) (pm (dD S) f bc cn J (f x)) (bc (f x))))) (fun k => if k = x then rr else f k) (fun y => if y = rr then cC (dD S) (f x) (pm (dD S) f bc cn J (f x)) (bc (f x)) else bc y) cn (x + 1) (v + cO (dD S) (f x) (pm (dD S) f bc cn J (f x)) (bc (f x))) := by
                    rw [hrre]
                    show (if _ then _ else if _ then _ else if _ then _ else if _ then _ else _) = _
                    rw [if_neg hnst, if_neg hco0, if_neg h8n, if_neg hno]
                  have hfr : frS (dD S) 16 0 = nI rr ∧ rr < 16 ∧ oB (dD S) rr = 0 := by
                    rw [hrre]
                    rcases frN_spec (dD S) 16 0 with h5 | h5
                    · exact absurd (Or.inr h5.1) hno
                    · exact ⟨h5.1, by omega, h5.2.2.2⟩
                  have hrr := hfr.2
                  have hrx : ¬ rr = f x := fun q => by
                    have h5 := hfx.2.1
                    rw [← q, hrr.2] at h5
                    omega
                  have h128 : tt.length ≤ 128 := by rw [htt]; omega
                  refine x_al1 (pc := 124) rfl rfl ?_
                  refine x_al1 (pc := 125) rfl rfl ?_
                  refine x_il2 (pc := 126) rfl rfl ?_
                  refine x_k (pc := 128) rfl rfl rfl ⟨Nat.le_of_ble_eq_true rfl, Nat.le_of_ble_eq_true rfl, Nat.le_of_ble_eq_true rfl⟩ rfl (k_102_2 (I := I1) (A := A1) (S := S) (f := f) (t := cF (dD S) (f x) (pm (dD S) f bc cn J (f x)) (bc (f x))) (x := x) (kD_on hD ho f1 g1 (by decide) (by decide)) ho (by rw [← htt]; exact h1p) (by omega) (by rw [g1 38 (by decide)]; exact hsl x (by omega)) hmk hn hu (gB0_by (cF_by _ _ _ _)) (by rw [← htt]; exact h128) hrr.1 hfr.1 hfx.1 (fun o2 I2 A2 f2 g2 h2 d2 => ?_) (fun o2 I2 A2 f2 g2 h2 => mK_x rfl (kx (by rw [ev, cl_off o2]; exact o2) I2 A2 (Up_tr (Up_fr f1 (by decide)) f2) (Up_tr (Up_fr g1 (by decide)) g2) (by rw [ev, cl_off o2]; exact h2))))
                  show mq 93 131 [some (.ref 1), some (.int (nI 2)), some (.int t), some (.ref 23), some (.int (nI v)), some (.int (nI x)), some (.int (nI rd)), some (.int (nI (f x))), some (.int (nI co))] [.int (nI 1)] (hS n u I2 A2 J B mk sn L xs X) _
                  refine x_ifN_ne (pc := 131) (t := 137) rfl rfl (by decide) (fun _ => ?_) (fun c => absurd c (by decide))
                  refine x_iincN (pc := 137) (c := 1) (ml' := [some (.ref 1), some (.int (nI 2)), some (.int t), some (.ref 23), some (.int (nI v)), some (.int (nI (x + 1))), some (.int (nI rd)), some (.int (nI (f x))), some (.int (nI co))]) rfl rfl rfl rfl ?_
                  refine x_il2 (pc := 140) rfl rfl ?_
                  refine x_il2 (pc := 142) rfl rfl ?_
                  refine x_iaddN (pc := 144) (c := v + co) rfl rfl ?_
                  refine x_is2 (pc := 145) (ml' := [some (.ref 1), some (.int (nI 2)), some (.int t), some (.ref 23), some (.int (nI (v + co))), some (.int (nI (x + 1))), some (.int (nI rd)), some (.int (nI (f x))), some (.int (nI co))]) rfl rfl ?_
                  refine x_iincN (pc := 147) (c := 1) (ml' := [some (.ref 1), some (.int (nI 2)), some (.int t), some (.ref 23), some (.int (nI (v + co))), some (.int (nI (x + 1))), some (.int (nI (rd + 1))), some (.int (nI (f x))), some (.int (nI co))]) rfl rfl rfl rfl ?_
                  refine x_step (pc := 150) (pc' := 51) rfl rfl rfl rfl ?_
                  have F : Fr [2, 3, 4, 5, 6, 7, 8, 9, 10, 13, 14, 15, 20, 21, 22, 23, 24, 25, 46] I (I2) := (Fr_cons (Fr_cons (Fr_refl _ _) f1 (by decide)) f2 (by decide))
                  have G : Fr [0, 3, 4, 10, 11, 12, 13, 14, 15, 16, 17, 18, 19, 38] A (A2) := (Fr_cons (Fr_cons (Fr_refl _ _) g1 (by decide)) g2 (by decide))
                  rw [← hco] at ev
                  have hon := wrs_on o2
                  have hWL1 : WL (dD (wrs S (mvW rr 2 (f x) (cF (dD S) (f x) (pm (dD S) f bc cn J (f x)) (bc (f x)))))) 2 (fun k => if k = x then rr else f k) (fun y => if y = rr then cC (dD S) (f x) (pm (dD S) f bc cn J (f x)) (bc (f x)) else bc y) cn N := by
                    rw [hon.2]
                    exact WL_cl_mv hWL (by decide) (by omega) hrr.1 hrr.2 h8n (by rw [← htt]; omega)
                  have hsf : sf (dD (wrs S (mvW rr 2 (f x) (cF (dD S) (f x) (pm (dD S) f bc cn J (f x)) (bc (f x)))))) (fun k => if k = x then rr else f k) (fun y => if y = rr then cC (dD S) (f x) (pm (dD S) f bc cn J (f x)) (bc (f x)) else bc y) (cn - (x + 1)) (x + 1) = sf (dD S) f bc (cn - x - 1) (x + 1) := by
                    rw [hon.2, show cn - (x + 1) = cn - x - 1 by omega]
                    refine sf_same (fun y hy => ?_)
                    have hy1 := hWL.1.1 (x + 1 + y) (by omega)
                    have hyr : ¬ f (x + 1 + y) = rr := fun q => by
                      rw [q, hrr.2] at hy1
                      omega
                    rw [if_neg (show ¬ x + 1 + y = x by omega), if_neg hyr]
                    exact SmS_sRs (fun q hq h2 _ => (mv_D hrr.1 hfx.1 hrx (by decide) (by rw [← htt]; omega)).2.2.2.2 _ hy1.1 hyr q hq h2) (hWL.2.1 _ (by omega))
                  refine ih (rd + 1) (v + co) (x + 1) cn (a + (sRs (dD S) (f x) (bc (f x))).length) (P0 := P0 ++ sRs (dD S) (f x) (bc (f x))) (S := wrs S (mvW rr 2 (f x) (cF (dD S) (f x) (pm (dD S) f bc cn J (f x)) (bc (f x))))) (f := (fun k => if k = x then rr else f k)) (bc := (fun y => if y = rr then cC (dD S) (f x) (pm (dD S) f bc cn J (f x)) (bc (f x)) else bc y)) _ _ (I := I2) (A := A2) (by omega) (by omega) (by omega) h2 o2 hWL1 hN (by omega) (by rw [List.length_append, hP0]) (by rw [hsf, hZ, hYc, List.append_assoc]) hZ5 (SV_fr hS0 F G (by decide) (by decide)) ((f2 13 (by decide)).trans x1) ((f2 46 (by decide)).trans ((f1 46 (by decide)).trans hc)) (fun j hj => ?_) (fun o4 I4 A4 f4 g4 h4 x4 y4 => ?_) (fun o4 I4 A4 f4 g4 h4 => ?_)
                  · rw [d2, g1 38 (by decide)]
                    by_cases hjx : j = x
                    · rw [hjx, pk_us, if_pos rfl]
                    · rw [pk_un hjx, if_neg hjx]
                      exact hsl j hj
                  · rw [ev] at kk
                    exact kk o4 I4 A4 (Fr_cons F f4 (by decide)) (Fr_cons G g4 (by decide)) h4 x4 y4
                  · rw [ev] at kx
                    exact kx o4 I4 A4 (Up_tr (Up_fr F (by decide)) f4) (Up_tr (Up_fr G (by decide)) g4) h4
            · have ev : cl 2 J (z + 1) S f bc cn x v = cl 2 J z (wr1 S (owW (f x) 0)) (rmF f x) bc (cn - 1) x (v + cO (dD S) (f x) (pm (dD S) f bc cn J (f x)) (bc (f x))) := by
                show (if _ then _ else if _ then _ else if _ then _ else _) = _
                rw [if_neg hnst, if_neg hco0, if_pos (by rw [← htt]; exact c100)]
              refine x_al1 (pc := 103) rfl rfl ?_
              refine x_il2 (pc := 104) rfl rfl ?_
              refine x_const (pc := 106) (pc' := 107) (.int (nI 0)) rfl rfl rfl rfl ?_
              refine x_k (pc := 107) rfl rfl rfl ⟨Nat.le_of_ble_eq_true rfl, Nat.le_of_ble_eq_true rfl, Nat.le_of_ble_eq_true rfl⟩ rfl (k_24 (I := I1) (A := A1) (S := S) (s := f x) (v := 0) hfx.1 (by decide) (kD_on hD ho f1 g1 (by decide) (by decide)) ho hmk hn hu (fun o2 I2 A2 f2 g2 h2 => ?_) (fun o2 I2 A2 f2 g2 h2 => mK_x rfl (kx (by rw [ev, cl_off o2]; exact o2) I2 A2 (Up_tr (Up_fr f1 (by decide)) f2) (Up_tr (Up_fr g1 (by decide)) g2) (by rw [ev, cl_off o2]; exact h2))))
              show mq 93 110 [some (.ref 1), some (.int (nI 2)), some (.int t), some (.ref 23), some (.int (nI v)), some (.int (nI x)), some (.int (nI rd)), some (.int (nI (f x))), some (.int (nI co))] [] (hS n u I2 A2 J B mk sn L xs X) _
              refine x_al1 (pc := 110) rfl rfl ?_
              refine x_il2 (pc := 111) rfl rfl ?_
              refine x_k (pc := 113) rfl rfl rfl ⟨Nat.le_of_ble_eq_true rfl, Nat.le_of_ble_eq_true rfl, Nat.le_of_ble_eq_true rfl⟩ rfl (k_101_2 (I := I2) (A := A2) (cn := cn) (j := x) (f := f) (SG_le hWL.1) (by omega) ((f2 46 (by decide)).trans ((f1 46 (by decide)).trans hc)) (fun m hm => by rw [g2 38 (by decide), g1 38 (by decide)]; exact hsl m hm) (fun A3 g3 h3 => ?_))
              show mq 93 116 [some (.ref 1), some (.int (nI 2)), some (.int t), some (.ref 23), some (.int (nI v)), some (.int (nI x)), some (.int (nI rd)), some (.int (nI (f x))), some (.int (nI co))] [] (hS n u (va_up I2 46 (nI (cn - 1))) A3 J B mk sn L xs X) _
              refine x_step (pc := 116) (pc' := 140) rfl rfl rfl rfl ?_
              refine x_il2 (pc := 140) rfl rfl ?_
              refine x_il2 (pc := 142) rfl rfl ?_
              refine x_iaddN (pc := 144) (c := v + co) rfl rfl ?_
              refine x_is2 (pc := 145) (ml' := [some (.ref 1), some (.int (nI 2)), some (.int t), some (.ref 23), some (.int (nI (v + co))), some (.int (nI x)), some (.int (nI rd)), some (.int (nI (f x))), some (.int (nI co))]) rfl rfl ?_
              refine x_iincN (pc := 147) (c := 1) (ml' := [some (.ref 1), some (.int (nI 2)), some (.int t), some (.ref 23), some (.int (nI (v + co))), some (.int (nI x)), some (.int (nI (rd + 1))), some (.int (nI (f x))), some (.int (nI co))]) rfl rfl rfl rfl ?_
              refine x_step (pc := 150) (pc' := 51) rfl rfl rfl rfl ?_
              have F : Fr [2, 3, 4, 5, 6, 7, 8, 9, 10, 13, 14, 15, 20, 21, 22, 23, 24, 25, 46] I (va_up I2 46 (nI (cn - 1))) := (Fr_u (Fr_cons (Fr_cons (Fr_refl _ _) f1 (by decide)) f2 (by decide)) (by decide))
              have G : Fr [0, 3, 4, 10, 11, 12, 13, 14, 15, 16, 17, 18, 19, 38] A (A3) := (Fr_cons (Fr_cons (Fr_cons (Fr_refl _ _) g1 (by decide)) g2 (by decide)) g3 (by decide))
              have eD : dD (wr1 S (owW (f x) 0)) = dW (dD S) (128 * f x + 2) 1 (gB0 [0 / 2 ^ 0 % 256]) := (wr1_D o2).2
              rw [← hco] at ev
              have hWL1 : WL (dD (wr1 S (owW (f x) 0))) 2 (rmF f x) bc (cn - 1) N := by
                rw [eD]
                exact WL_cl_rm hWL (by omega)
              have hsf : sf (dD (wr1 S (owW (f x) 0))) (rmF f x) bc (cn - 1 - x) x = sf (dD S) f bc (cn - x - 1) (x + 1) := by
                rw [eD, show cn - 1 - x = cn - x - 1 by omega]
                refine sf_same (fun y hy => ?_)
                rw [show rmF f x (x + y) = f (x + 1 + y) from (if_neg (by omega)).trans (by rw [show x + y + 1 = x + 1 + y by omega])]
                exact ow_sRs _ (hWL.2.1 _ (by omega))
              refine ih (rd + 1) (v + co) x (cn - 1) (a + (sRs (dD S) (f x) (bc (f x))).length) (P0 := P0 ++ sRs (dD S) (f x) (bc (f x))) (S := wr1 S (owW (f x) 0)) (f := rmF f x) (bc := bc) _ _ (I := va_up I2 46 (nI (cn - 1))) (A := A3) (by omega) (by omega) (by omega) (kD_on h2 o2 (Fr_up I2 46 _) g3 (by decide) (by decide)) o2 hWL1 hN (by omega) (by rw [List.length_append, hP0]) (by rw [hsf, hZ, hYc, List.append_assoc]) hZ5 (SV_fr hS0 F G (by decide) (by decide)) ((f2 13 (by decide)).trans x1) rfl h3 (fun o4 I4 A4 f4 g4 h4 x4 y4 => ?_) (fun o4 I4 A4 f4 g4 h4 => ?_)
              · rw [ev] at kk
                exact kk o4 I4 A4 (Fr_cons F f4 (by decide)) (Fr_cons G g4 (by decide)) h4 x4 y4
              · rw [ev] at kx
                exact kx o4 I4 A4 (Up_tr (Up_fr F (by decide)) f4) (Up_tr (Up_fr G (by decide)) g4) h4
set_option maxRecDepth 100000 in
set_option maxHeartbeats 4000000 in
theorem l_93_3 {N : Nat} {t : Int32} {Z : List R5} (hmk : mks mk sn) (hn : 77 ≤ n ∧ n < 10000) (hu : u + 6 < 1000000) {Q : mO × mHp → Prop} : ∀ (z rd v x cn a : Nat) {P0 : List R5} {S : DS} {f bc : Nat → Nat} (w7 w8 : Option Value) {I : Nat → Int32} {A : Nat → Nat → Int32}, (rd + z = 16) → (cn ≤ x + z + 1) → (x ≤ 16) → (kD mk S I A) → (dO S = false) → (WL (dD S) 3 f bc cn N) → (N ≤ 2 ^ 31) → (v + 30 * z ≤ 480) → (P0.length = a) → (Z = P0 ++ sf (dD S) f bc (cn - x) x) → (Z.length ≤ 512) → (SV I A Z) → (I 13 = nI a) → (I 49 = nI cn) → (∀ j, j < cn → A 42 j = nI (f j)) → (dO (cl 3 J z S f bc cn x v).1 = false → ∀ I' A', Fr [2, 3, 4, 5, 6, 7, 8, 9, 10, 13, 14, 15, 20, 21, 22, 23, 24, 25, 49] I I' → Fr [0, 3, 4, 10, 11, 12, 13, 14, 15, 16, 17, 18, 19, 42] A A' → kD mk (cl 3 J z S f bc cn x v).1 I' A' → I' 49 = nI (cl 3 J z S f bc cn x v).2.2.2.1 → (∀ j, j < (cl 3 J z S f bc cn x v).2.2.2.1 → A' 42 j = nI ((cl 3 J z S f bc cn x v).2.1 j)) → Q (.inl (some (.int (nI (cl 3 J z S f bc cn x v).2.2.2.2))), hS n u I' A' J B mk sn L xs X)) → (dO (cl 3 J z S f bc cn x v).1 = true → ∀ I' A', Up 60 I I' → Up 50 A A' → kD mk (cl 3 J z S f bc cn x v).1 I' A' → Q (.inr n, hS (n + 1) (u + 6) I' A' J B mk sn L xs (va_up X n (.inr (9, []))))) → mq 93 51 [some (.ref 1), some (.int (nI 3)), some (.int t), some (.ref 28), some (.int (nI v)), some (.int (nI x)), some (.int (nI rd)), w7, w8] [] (hS n u I A J B mk sn L xs X) Q := by
  intro z
  induction z with
  | zero =>
    intro rd v x cn a P0 S f bc w7 w8 I A hz hcz hx16 hD ho hWL hN hv hP0 hZ hZ5 hS0 h13 hc hsl kk kx
    refine x_il2 (pc := 51) rfl rfl ?_
    refine x_const (pc := 53) (pc' := 55) (.int (nI 16)) rfl rfl rfl rfl ?_
    refine x_cmpN_ge (pc := 55) (t := 153) rfl rfl (by omega) (by omega) (fun c55 => ?_) (fun c55 => ?_)
    · refine x_il2 (pc := 153) rfl rfl ?_
      refine x_ret (pc := 155) rfl rfl ?_
      exact kk ho I A (Fr_refl _ _) (Fr_refl _ _) hD hc hsl
    · omega
  | succ z ih =>
    intro rd v x cn a P0 S f bc w7 w8 I A hz hcz hx16 hD ho hWL hN hv hP0 hZ hZ5 hS0 h13 hc hsl kk kx
    have hcn16 := SG_le hWL.1
    rcases Nat.eq_zero_or_pos cn with hc0 | hcp
    · refine x_il2 (pc := 51) rfl rfl ?_
      refine x_const (pc := 53) (pc' := 55) (.int (nI 16)) rfl rfl rfl rfl ?_
      refine x_cmpN_ge (pc := 55) (t := 153) rfl rfl (by omega) (by omega) (fun c55 => ?_) (fun c55 => ?_)
      · omega
      · refine x_il2 (pc := 58) rfl rfl ?_
        refine x_al1 (pc := 60) rfl rfl ?_
        refine g_28_5 (pc := 61) (v := nI cn) rfl rfl hc ?_
        refine x_const (pc := 64) (pc' := 65) (.int (nI 1)) rfl rfl rfl rfl ?_
        refine x_isubV (pc := 65) (v := (-1)) rfl (by rw [hc0]; decide) ?_
        refine x_cmp_ge (pc := 66) (t := 153) rfl rfl rfl (fun c66 => ?_) (fun c66 => ?_)
        · have ev : cl 3 J (z + 1) S f bc cn x v = (S, f, bc, cn, v) := if_pos (Or.inr (by omega))
          rw [ev] at kk
          refine x_il2 (pc := 153) rfl rfl ?_
          refine x_ret (pc := 155) rfl rfl ?_
          exact kk ho I A (Fr_refl _ _) (Fr_refl _ _) hD hc hsl
        · exact absurd (m1_le x (by omega)) c66
    · refine x_il2 (pc := 51) rfl rfl ?_
      refine x_const (pc := 53) (pc' := 55) (.int (nI 16)) rfl rfl rfl rfl ?_
      refine x_cmpN_ge (pc := 55) (t := 153) rfl rfl (by omega) (by omega) (fun c55 => ?_) (fun c55 => ?_)
      · omega
      · refine x_il2 (pc := 58) rfl rfl ?_
        refine x_al1 (pc := 60) rfl rfl ?_
        refine g_28_5 (pc := 61) (v := nI cn) rfl rfl hc ?_
        refine x_const (pc := 64) (pc' := 65) (.int (nI 1)) rfl rfl rfl rfl ?_
        refine x_isubN (pc := 65) rfl ((by omega)) ?_
        refine x_cmpN_ge (pc := 66) (t := 153) rfl rfl (by omega) (by omega) (fun c66 => ?_) (fun c66 => ?_)
        · have ev : cl 3 J (z + 1) S f bc cn x v = (S, f, bc, cn, v) := if_pos (Or.inr (by omega))
          rw [ev] at kk
          refine x_il2 (pc := 153) rfl rfl ?_
          refine x_ret (pc := 155) rfl rfl ?_
          exact kk ho I A (Fr_refl _ _) (Fr_refl _ _) hD hc hsl
        · have hfx := hWL.1.1 x (by omega)
          have hYc : sf (dD S) f bc (cn - x) x = sRs (dD S) (f x) (bc (f x)) ++ sf (dD S) f bc (cn - x - 1) (x + 1) := by
            obtain ⟨y, hy⟩ : ∃ y, cn - x = y + 1 := ⟨cn - x - 1, by omega⟩
            rw [hy, Nat.add_sub_cancel]
            rfl
          have hYl : (sf (dD S) f bc (cn - x) x).length = (sRs (dD S) (f x) (bc (f x))).length + (sf (dD S) f bc (cn - x - 1) (x + 1)).length := by rw [hYc, List.length_append]
          have hZl : a + (sRs (dD S) (f x) (bc (f x))).length ≤ Z.length := by
            rw [hZ, List.length_append, hP0, hYl]
            omega
          have hpe : ∀ j, j < bc (f x) → ∀ k, k < bN (dD S) (sb (dD S) (f x) j) → (fun j k => lo (P0 ++ sf (dD S) f bc (cn - x) x) J (a + (sRs (dD S) (f x) j).length + k) (tR (dD S) (sb (dD S) (f x) j) k) (dR (dD S) (sb (dD S) (f x) j) k)) j k = (pm (dD S) f bc cn J (f x)) j k := fun j hj k hk => pm_lo hWL.2.2 (by omega) hN hP0 hj hk
          have eO : cO (dD S) (f x) (fun j k => lo (P0 ++ sf (dD S) f bc (cn - x) x) J (a + (sRs (dD S) (f x) j).length + k) (tR (dD S) (sb (dD S) (f x) j) k) (dR (dD S) (sb (dD S) (f x) j) k)) (bc (f x)) = cO (dD S) (f x) (pm (dD S) f bc cn J (f x)) (bc (f x)) := (cT_ext hpe).2
          have eF : cF (dD S) (f x) (fun j k => lo (P0 ++ sf (dD S) f bc (cn - x) x) J (a + (sRs (dD S) (f x) j).length + k) (tR (dD S) (sb (dD S) (f x) j) k) (dR (dD S) (sb (dD S) (f x) j) k)) (bc (f x)) = cF (dD S) (f x) (pm (dD S) f bc cn J (f x)) (bc (f x)) := cF_ext hpe
          obtain ⟨co, hco⟩ : ∃ q, q = cO (dD S) (f x) (pm (dD S) f bc cn J (f x)) (bc (f x)) := ⟨_, rfl⟩
          obtain ⟨tt, htt⟩ : ∃ q, q = cF (dD S) (f x) (pm (dD S) f bc cn J (f x)) (bc (f x)) := ⟨_, rfl⟩
          have hco30 : co ≤ 30 := by
            rw [hco]
            exact Nat.le_trans (cO_le _ _ _ _) (sRs_30 (hWL.2.1 x (by omega)))
          have htt9 : tt.length ≤ 564 := by
            rw [htt, cF_len]
            exact cT_600 (hWL.2.1 x (by omega)) _ (Nat.le_refl _)
          refine x_al1 (pc := 69) rfl rfl ?_
          refine g_28_1 (pc := 70) rfl rfl ?_
          refine x_il2 (pc := 73) rfl rfl ?_
          refine al_29 (pc := 75) (q := x) (v := nI (f x)) rfl rfl (by omega) (hsl x (by omega)) ?_
          refine x_is2 (pc := 76) (ml' := [some (.ref 1), some (.int (nI 3)), some (.int t), some (.ref 28), some (.int (nI v)), some (.int (nI x)), some (.int (nI rd)), some (.int (nI (f x))), w8]) rfl rfl ?_
          refine x_al1 (pc := 78) rfl rfl ?_
          refine x_il2 (pc := 79) rfl rfl ?_
          refine x_k (pc := 81) rfl rfl rfl ⟨Nat.le_of_ble_eq_true rfl, Nat.le_of_ble_eq_true rfl, Nat.le_of_ble_eq_true rfl⟩ rfl (k_97 (I := I) (A := A) (D := dD S) (s := f x) (c := bc (f x)) (a := a) (Z := P0 ++ sf (dD S) f bc (cn - x) x) hD.2.1 hfx.1 (hWL.2.1 x (by omega)) (by rw [← hZ]; exact hZ5) (by rw [List.length_append, hP0, hYl]; omega) h13 (by rw [← hZ]; exact hS0) (by have := hfx.2.2; omega) (fun I1 A1 f1 g1 x1 h1 => ?_))
          show mq 93 84 [some (.ref 1), some (.int (nI 3)), some (.int t), some (.ref 28), some (.int (nI v)), some (.int (nI x)), some (.int (nI rd)), some (.int (nI (f x))), w8] [.int (nI (cO (dD S) (f x) (fun j k => lo (P0 ++ sf (dD S) f bc (cn - x) x) J (a + (sRs (dD S) (f x) j).length + k) (tR (dD S) (sb (dD S) (f x) j) k) (dR (dD S) (sb (dD S) (f x) j) k)) (bc (f x))))] (hS n u I1 A1 J B mk sn L xs X) _
          refine x_top (y := nI co) (congrArg nI (eO.trans hco.symm)) ?_
          refine x_is2 (pc := 84) (ml' := [some (.ref 1), some (.int (nI 3)), some (.int t), some (.ref 28), some (.int (nI v)), some (.int (nI x)), some (.int (nI rd)), some (.int (nI (f x))), some (.int (nI co))]) rfl rfl ?_
          have h1p : Pg 14 3 128 I1 A1 tt := by
            rw [htt, ← eF]
            exact h1
          refine x_il2 (pc := 86) rfl rfl ?_
          refine x_ifN_le (pc := 88) (t := 119) rfl rfl (by omega) (fun c88 => ?_) (fun c88 => ?_)
          · refine x_il2 (pc := 119) rfl rfl ?_
            refine x_ifN_le (pc := 121) (t := 137) rfl rfl (by omega) (fun c121 => ?_) (fun c121 => ?_)
            · refine x_iincN (pc := 137) (c := 1) (ml' := [some (.ref 1), some (.int (nI 3)), some (.int t), some (.ref 28), some (.int (nI v)), some (.int (nI (x + 1))), some (.int (nI rd)), some (.int (nI (f x))), some (.int (nI co))]) rfl rfl rfl rfl ?_
              refine x_il2 (pc := 140) rfl rfl ?_
              refine x_il2 (pc := 142) rfl rfl ?_
              refine x_iaddN (pc := 144) (c := v + co) rfl rfl ?_
              refine x_is2 (pc := 145) (ml' := [some (.ref 1), some (.int (nI 3)), some (.int t), some (.ref 28), some (.int (nI (v + co))), some (.int (nI (x + 1))), some (.int (nI rd)), some (.int (nI (f x))), some (.int (nI co))]) rfl rfl ?_
              refine x_iincN (pc := 147) (c := 1) (ml' := [some (.ref 1), some (.int (nI 3)), some (.int t), some (.ref 28), some (.int (nI (v + co))), some (.int (nI (x + 1))), some (.int (nI (rd + 1))), some (.int (nI (f x))), some (.int (nI co))]) rfl rfl rfl rfl ?_
              refine x_step (pc := 150) (pc' := 51) rfl rfl rfl rfl ?_
              have F : Fr [2, 3, 4, 5, 6, 7, 8, 9, 10, 13, 14, 15, 20, 21, 22, 23, 24, 25, 49] I (I1) := (Fr_cons (Fr_refl _ _) f1 (by decide))
              have G : Fr [0, 3, 4, 10, 11, 12, 13, 14, 15, 16, 17, 18, 19, 42] A (A1) := (Fr_cons (Fr_refl _ _) g1 (by decide))
              have hnst : ¬ (dO S = true ∨ ¬ x + 1 < cn) := fun q => q.elim (fun q => Bool.noConfusion (ho.symm.trans q)) (fun q => q (by omega))
              have ev : cl 3 J (z + 1) S f bc cn x v = cl 3 J z S f bc cn (x + 1) v := by
                show (if _ then _ else if _ then _ else _) = _
                rw [if_neg hnst, if_pos (by rw [← hco]; omega)]
              have ec : v + co = v := by omega
              rw [ec]
              refine ih (rd + 1) v (x + 1) cn (a + (sRs (dD S) (f x) (bc (f x))).length) (P0 := P0 ++ sRs (dD S) (f x) (bc (f x))) _ _ (I := I1) (A := A1) (by omega) (by omega) (by omega) (kD_on hD ho f1 g1 (by decide) (by decide)) ho hWL hN (by omega) (by rw [List.length_append, hP0]) (by rw [hZ, hYc, List.append_assoc, show cn - (x + 1) = cn - x - 1 by omega]) hZ5 (SV_fr hS0 f1 g1 (by decide) (by decide)) x1 ((f1 49 (by decide)).trans hc) (fun j hj => by rw [g1 42 (by decide)]; exact hsl j hj) (fun o4 I4 A4 f4 g4 h4 x4 y4 => ?_) (fun o4 I4 A4 f4 g4 h4 => ?_)
              · rw [ev] at kk
                exact kk o4 I4 A4 (Fr_cons F f4 (by decide)) (Fr_cons G g4 (by decide)) h4 x4 y4
              · rw [ev] at kx
                exact kx o4 I4 A4 (Up_tr (Up_fr F (by decide)) f4) (Up_tr (Up_fr G (by decide)) g4) h4
            · omega
          · have hnst : ¬ (dO S = true ∨ ¬ x + 1 < cn) := fun q => q.elim (fun q => Bool.noConfusion (ho.symm.trans q)) (fun q => q (by omega))
            have hco0 : ¬ cO (dD S) (f x) (pm (dD S) f bc cn J (f x)) (bc (f x)) = 0 := by rw [← hco]; omega
            refine x_al1 (pc := 91) rfl rfl ?_
            refine g_1_7 (pc := 92) rfl rfl ?_
            refine g_49_1 (pc := 95) (v := nI tt.length) rfl rfl h1p.1 ?_
            refine x_const (pc := 98) (pc' := 100) (.int (nI 8)) rfl rfl rfl rfl ?_
            refine x_cmpN_ne (pc := 100) (t := 119) rfl rfl (by omega) (by omega) (fun c100 => ?_) (fun c100 => ?_)
            · have h8n : ¬ (cF (dD S) (f x) (pm (dD S) f bc cn J (f x)) (bc (f x))).length = 8 := by rw [← htt]; exact c100
              refine x_il2 (pc := 119) rfl rfl ?_
              refine x_ifN_le (pc := 121) (t := 137) rfl rfl (by omega) (fun c121 => ?_) (fun c121 => ?_)
              · omega
              · by_cases hno : 128 < (cF (dD S) (f x) (pm (dD S) f bc cn J (f x)) (bc (f x))).length ∨ frS (dD S) 16 0 = -1
                · have ev : cl 3 J (z + 1) S f bc cn x v = (S, f, bc, cn, v) := by
                    show (if _ then _ else if _ then _ else if _ then _ else if _ then _ else _) = _
                    rw [if_neg hnst, if_neg hco0, if_neg h8n, if_pos hno]
                  rw [ev] at kk
                  refine x_al1 (pc := 124) rfl rfl ?_
                  refine x_al1 (pc := 125) rfl rfl ?_
                  refine x_il2 (pc := 126) rfl rfl ?_
                  refine x_k (pc := 128) rfl rfl rfl ⟨Nat.le_of_ble_eq_true rfl, Nat.le_of_ble_eq_true rfl, Nat.le_of_ble_eq_true rfl⟩ rfl (k_102n_3 (I := I1) (A := A1) (S := S) (f := f) (t := tt) (kD_on hD ho f1 g1 (by decide) (by decide)) ho h1p (by omega) (by rw [g1 42 (by decide)]; exact hsl x (by omega)) (hno.elim (fun q => Or.inr (by rw [htt]; exact q)) Or.inl) (by omega) ?_)
                  show mq 93 131 [some (.ref 1), some (.int (nI 3)), some (.int t), some (.ref 28), some (.int (nI v)), some (.int (nI x)), some (.int (nI rd)), some (.int (nI (f x))), some (.int (nI co))] [.int (nI 0)] (hS n u I1 A1 J B mk sn L xs X) _
                  refine x_ifN_ne (pc := 131) (t := 137) rfl rfl (by decide) (fun c => absurd c (by decide)) (fun _ => ?_)
                  refine x_step (pc := 134) (pc' := 153) rfl rfl rfl rfl ?_
                  refine x_il2 (pc := 153) rfl rfl ?_
                  refine x_ret (pc := 155) rfl rfl ?_
                  exact kk ho I1 A1 (Fr_cons (Fr_refl _ _) f1 (by decide)) (Fr_cons (Fr_refl _ _) g1 (by decide)) (kD_on hD ho f1 g1 (by decide) (by decide)) ((f1 49 (by decide)).trans hc) (fun j hj => by rw [g1 42 (by decide)]; exact hsl j hj)
                · obtain ⟨rr, hrre⟩ : ∃ q, q = frN (dD S) 16 0 := ⟨_, rfl⟩
                  have ev : cl 3 J (z + 1) S f bc cn x v = cl 3 J z (wrs S (mvW rr 3 (f x) (cF (dD S) (f x) (pm (dD S) f bc cn J (f x)) (bc (f x))))) (fun k => if k = x then rr else f k) (fun y => if y = rr then cC (dD S) (f x) (pm (dD S) f bc cn J (f x)) (bc (f x)) else bc y) cn (x + 1) (v + cO (dD S) (f x) (pm (dD S) f bc cn J (f x)) (bc (f x))) := by
                    rw [hrre]
                    show (if _ then _ else if _ then _ else if _ then _ else if _ then _ else _) = _
                    rw [if_neg hnst, if_neg hco0, if_neg h8n, if_neg hno]
                  have hfr : frS (dD S) 16 0 = nI rr ∧ rr < 16 ∧ oB (dD S) rr = 0 := by
                    rw [hrre]
                    rcases frN_spec (dD S) 16 0 with h5 | h5
                    · exact absurd (Or.inr h5.1) hno
                    · exact ⟨h5.1, by omega, h5.2.2.2⟩
                  have hrr := hfr.2
                  have hrx : ¬ rr = f x := fun q => by
                    have h5 := hfx.2.1
                    rw [← q, hrr.2] at h5
                    omega
                  have h128 : tt.length ≤ 128 := by rw [htt]; omega
                  refine x_al1 (pc := 124) rfl rfl ?_
                  refine x_al1 (pc := 125) rfl rfl ?_
                  refine x_il2 (pc := 126) rfl rfl ?_
                  refine x_k (pc := 128) rfl rfl rfl ⟨Nat.le_of_ble_eq_true rfl, Nat.le_of_ble_eq_true rfl, Nat.le_of_ble_eq_true rfl⟩ rfl (k_102_3 (I := I1) (A := A1) (S := S) (f := f) (t := cF (dD S) (f x) (pm (dD S) f bc cn J (f x)) (bc (f x))) (x := x) (kD_on hD ho f1 g1 (by decide) (by decide)) ho (by rw [← htt]; exact h1p) (by omega) (by rw [g1 42 (by decide)]; exact hsl x (by omega)) hmk hn hu (gB0_by (cF_by _ _ _ _)) (by rw [← htt]; exact h128) hrr.1 hfr.1 hfx.1 (fun o2 I2 A2 f2 g2 h2 d2 => ?_) (fun o2 I2 A2 f2 g2 h2 => mK_x rfl (kx (by rw [ev, cl_off o2]; exact o2) I2 A2 (Up_tr (Up_fr f1 (by decide)) f2) (Up_tr (Up_fr g1 (by decide)) g2) (by rw [ev, cl_off o2]; exact h2))))
                  show mq 93 131 [some (.ref 1), some (.int (nI 3)), some (.int t), some (.ref 28), some (.int (nI v)), some (.int (nI x)), some (.int (nI rd)), some (.int (nI (f x))), some (.int (nI co))] [.int (nI 1)] (hS n u I2 A2 J B mk sn L xs X) _
                  refine x_ifN_ne (pc := 131) (t := 137) rfl rfl (by decide) (fun _ => ?_) (fun c => absurd c (by decide))
                  refine x_iincN (pc := 137) (c := 1) (ml' := [some (.ref 1), some (.int (nI 3)), some (.int t), some (.ref 28), some (.int (nI v)), some (.int (nI (x + 1))), some (.int (nI rd)), some (.int (nI (f x))), some (.int (nI co))]) rfl rfl rfl rfl ?_
                  refine x_il2 (pc := 140) rfl rfl ?_
                  refine x_il2 (pc := 142) rfl rfl ?_
                  refine x_iaddN (pc := 144) (c := v + co) rfl rfl ?_
                  refine x_is2 (pc := 145) (ml' := [some (.ref 1), some (.int (nI 3)), some (.int t), some (.ref 28), some (.int (nI (v + co))), some (.int (nI (x + 1))), some (.int (nI rd)), some (.int (nI (f x))), some (.int (nI co))]) rfl rfl ?_
                  refine x_iincN (pc := 147) (c := 1) (ml' := [some (.ref 1), some (.int (nI 3)), some (.int t), some (.ref 28), some (.int (nI (v + co))), some (.int (nI (x + 1))), some (.int (nI (rd + 1))), some (.int (nI (f x))), some (.int (nI co))]) rfl rfl rfl rfl ?_
                  refine x_step (pc := 150) (pc' := 51) rfl rfl rfl rfl ?_
                  have F : Fr [2, 3, 4, 5, 6, 7, 8, 9, 10, 13, 14, 15, 20, 21, 22, 23, 24, 25, 49] I (I2) := (Fr_cons (Fr_cons (Fr_refl _ _) f1 (by decide)) f2 (by decide))
                  have G : Fr [0, 3, 4, 10, 11, 12, 13, 14, 15, 16, 17, 18, 19, 42] A (A2) := (Fr_cons (Fr_cons (Fr_refl _ _) g1 (by decide)) g2 (by decide))
                  rw [← hco] at ev
                  have hon := wrs_on o2
                  have hWL1 : WL (dD (wrs S (mvW rr 3 (f x) (cF (dD S) (f x) (pm (dD S) f bc cn J (f x)) (bc (f x)))))) 3 (fun k => if k = x then rr else f k) (fun y => if y = rr then cC (dD S) (f x) (pm (dD S) f bc cn J (f x)) (bc (f x)) else bc y) cn N := by
                    rw [hon.2]
                    exact WL_cl_mv hWL (by decide) (by omega) hrr.1 hrr.2 h8n (by rw [← htt]; omega)
                  have hsf : sf (dD (wrs S (mvW rr 3 (f x) (cF (dD S) (f x) (pm (dD S) f bc cn J (f x)) (bc (f x)))))) (fun k => if k = x then rr else f k) (fun y => if y = rr then cC (dD S) (f x) (pm (dD S) f bc cn J (f x)) (bc (f x)) else bc y) (cn - (x + 1)) (x + 1) = sf (dD S) f bc (cn - x - 1) (x + 1) := by
                    rw [hon.2, show cn - (x + 1) = cn - x - 1 by omega]
                    refine sf_same (fun y hy => ?_)
                    have hy1 := hWL.1.1 (x + 1 + y) (by omega)
                    have hyr : ¬ f (x + 1 + y) = rr := fun q => by
                      rw [q, hrr.2] at hy1
                      omega
                    rw [if_neg (show ¬ x + 1 + y = x by omega), if_neg hyr]
                    exact SmS_sRs (fun q hq h2 _ => (mv_D hrr.1 hfx.1 hrx (by decide) (by rw [← htt]; omega)).2.2.2.2 _ hy1.1 hyr q hq h2) (hWL.2.1 _ (by omega))
                  refine ih (rd + 1) (v + co) (x + 1) cn (a + (sRs (dD S) (f x) (bc (f x))).length) (P0 := P0 ++ sRs (dD S) (f x) (bc (f x))) (S := wrs S (mvW rr 3 (f x) (cF (dD S) (f x) (pm (dD S) f bc cn J (f x)) (bc (f x))))) (f := (fun k => if k = x then rr else f k)) (bc := (fun y => if y = rr then cC (dD S) (f x) (pm (dD S) f bc cn J (f x)) (bc (f x)) else bc y)) _ _ (I := I2) (A := A2) (by omega) (by omega) (by omega) h2 o2 hWL1 hN (by omega) (by rw [List.length_append, hP0]) (by rw [hsf, hZ, hYc, List.append_assoc]) hZ5 (SV_fr hS0 F G (by decide) (by decide)) ((f2 13 (by decide)).trans x1) ((f2 49 (by decide)).trans ((f1 49 (by decide)).trans hc)) (fun j hj => ?_) (fun o4 I4 A4 f4 g4 h4 x4 y4 => ?_) (fun o4 I4 A4 f4 g4 h4 => ?_)
                  · rw [d2, g1 42 (by decide)]
                    by_cases hjx : j = x
                    · rw [hjx, pk_us, if_pos rfl]
                    · rw [pk_un hjx, if_neg hjx]
                      exact hsl j hj
                  · rw [ev] at kk
                    exact kk o4 I4 A4 (Fr_cons F f4 (by decide)) (Fr_cons G g4 (by decide)) h4 x4 y4
                  · rw [ev] at kx
                    exact kx o4 I4 A4 (Up_tr (Up_fr F (by decide)) f4) (Up_tr (Up_fr G (by decide)) g4) h4
            · have ev : cl 3 J (z + 1) S f bc cn x v = cl 3 J z (wr1 S (owW (f x) 0)) (rmF f x) bc (cn - 1) x (v + cO (dD S) (f x) (pm (dD S) f bc cn J (f x)) (bc (f x))) := by
                show (if _ then _ else if _ then _ else if _ then _ else _) = _
                rw [if_neg hnst, if_neg hco0, if_pos (by rw [← htt]; exact c100)]
              refine x_al1 (pc := 103) rfl rfl ?_
              refine x_il2 (pc := 104) rfl rfl ?_
              refine x_const (pc := 106) (pc' := 107) (.int (nI 0)) rfl rfl rfl rfl ?_
              refine x_k (pc := 107) rfl rfl rfl ⟨Nat.le_of_ble_eq_true rfl, Nat.le_of_ble_eq_true rfl, Nat.le_of_ble_eq_true rfl⟩ rfl (k_24 (I := I1) (A := A1) (S := S) (s := f x) (v := 0) hfx.1 (by decide) (kD_on hD ho f1 g1 (by decide) (by decide)) ho hmk hn hu (fun o2 I2 A2 f2 g2 h2 => ?_) (fun o2 I2 A2 f2 g2 h2 => mK_x rfl (kx (by rw [ev, cl_off o2]; exact o2) I2 A2 (Up_tr (Up_fr f1 (by decide)) f2) (Up_tr (Up_fr g1 (by decide)) g2) (by rw [ev, cl_off o2]; exact h2))))
              show mq 93 110 [some (.ref 1), some (.int (nI 3)), some (.int t), some (.ref 28), some (.int (nI v)), some (.int (nI x)), some (.int (nI rd)), some (.int (nI (f x))), some (.int (nI co))] [] (hS n u I2 A2 J B mk sn L xs X) _
              refine x_al1 (pc := 110) rfl rfl ?_
              refine x_il2 (pc := 111) rfl rfl ?_
              refine x_k (pc := 113) rfl rfl rfl ⟨Nat.le_of_ble_eq_true rfl, Nat.le_of_ble_eq_true rfl, Nat.le_of_ble_eq_true rfl⟩ rfl (k_101_3 (I := I2) (A := A2) (cn := cn) (j := x) (f := f) (SG_le hWL.1) (by omega) ((f2 49 (by decide)).trans ((f1 49 (by decide)).trans hc)) (fun m hm => by rw [g2 42 (by decide), g1 42 (by decide)]; exact hsl m hm) (fun A3 g3 h3 => ?_))
              show mq 93 116 [some (.ref 1), some (.int (nI 3)), some (.int t), some (.ref 28), some (.int (nI v)), some (.int (nI x)), some (.int (nI rd)), some (.int (nI (f x))), some (.int (nI co))] [] (hS n u (va_up I2 49 (nI (cn - 1))) A3 J B mk sn L xs X) _
              refine x_step (pc := 116) (pc' := 140) rfl rfl rfl rfl ?_
              refine x_il2 (pc := 140) rfl rfl ?_
              refine x_il2 (pc := 142) rfl rfl ?_
              refine x_iaddN (pc := 144) (c := v + co) rfl rfl ?_
              refine x_is2 (pc := 145) (ml' := [some (.ref 1), some (.int (nI 3)), some (.int t), some (.ref 28), some (.int (nI (v + co))), some (.int (nI x)), some (.int (nI rd)), some (.int (nI (f x))), some (.int (nI co))]) rfl rfl ?_
              refine x_iincN (pc := 147) (c := 1) (ml' := [some (.ref 1), some (.int (nI 3)), some (.int t), some (.ref 28), some (.int (nI (v + co))), some (.int (nI x)), some (.int (nI (rd + 1))), some (.int (nI (f x))), some (.int (nI co))]) rfl rfl rfl rfl ?_
              refine x_step (pc := 150) (pc' := 51) rfl rfl rfl rfl ?_
              have F : Fr [2, 3, 4, 5, 6, 7, 8, 9, 10, 13, 14, 15, 20, 21, 22, 23, 24, 25, 49] I (va_up I2 49 (nI (cn - 1))) := (Fr_u (Fr_cons (Fr_cons (Fr_refl _ _) f1 (by decide)) f2 (by decide)) (by decide))
              have G : Fr [0, 3, 4, 10, 11, 12, 13, 14, 15, 16, 17, 18, 19, 42] A (A3) := (Fr_cons (Fr_cons (Fr_cons (Fr_refl _ _) g1 (by decide)) g2 (by decide)) g3 (by decide))
              have eD : dD (wr1 S (owW (f x) 0)) = dW (dD S) (128 * f x + 2) 1 (gB0 [0 / 2 ^ 0 % 256]) := (wr1_D o2).2
              rw [← hco] at ev
              have hWL1 : WL (dD (wr1 S (owW (f x) 0))) 3 (rmF f x) bc (cn - 1) N := by
                rw [eD]
                exact WL_cl_rm hWL (by omega)
              have hsf : sf (dD (wr1 S (owW (f x) 0))) (rmF f x) bc (cn - 1 - x) x = sf (dD S) f bc (cn - x - 1) (x + 1) := by
                rw [eD, show cn - 1 - x = cn - x - 1 by omega]
                refine sf_same (fun y hy => ?_)
                rw [show rmF f x (x + y) = f (x + 1 + y) from (if_neg (by omega)).trans (by rw [show x + y + 1 = x + 1 + y by omega])]
                exact ow_sRs _ (hWL.2.1 _ (by omega))
              refine ih (rd + 1) (v + co) x (cn - 1) (a + (sRs (dD S) (f x) (bc (f x))).length) (P0 := P0 ++ sRs (dD S) (f x) (bc (f x))) (S := wr1 S (owW (f x) 0)) (f := rmF f x) (bc := bc) _ _ (I := va_up I2 49 (nI (cn - 1))) (A := A3) (by omega) (by omega) (by omega) (kD_on h2 o2 (Fr_up I2 49 _) g3 (by decide) (by decide)) o2 hWL1 hN (by omega) (by rw [List.length_append, hP0]) (by rw [hsf, hZ, hYc, List.append_assoc]) hZ5 (SV_fr hS0 F G (by decide) (by decide)) ((f2 13 (by decide)).trans x1) rfl h3 (fun o4 I4 A4 f4 g4 h4 x4 y4 => ?_) (fun o4 I4 A4 f4 g4 h4 => ?_)
              · rw [ev] at kk
                exact kk o4 I4 A4 (Fr_cons F f4 (by decide)) (Fr_cons G g4 (by decide)) h4 x4 y4
              · rw [ev] at kx
                exact kx o4 I4 A4 (Up_tr (Up_fr F (by decide)) f4) (Up_tr (Up_fr G (by decide)) g4) h4
end S72
