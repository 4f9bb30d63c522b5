/-! A cleaned slot is moved: the class. -/
def up32 (n : Nat) : Nat := (n + 31) / 32 * 32
/-- the writes of a cleaned slot's move to slot r -/
def mvW (r l old : Nat) (t : List Nat) : List WI := spW r 0 (up32 t.length) t 4 0 ++ [owW r (l + 1), owW old 0]
theorem cT_by (D : Nat → Nat) (s : Nat) (P : Nat → Nat → Bool) : ∀ j, ∀ x ∈ cT D s P j, x < 256
  | 0 => hdr_by _ _ _ _
  | j + 1 => by
    have h := cT_by D s P j
    intro x hx
    have hx' : x ∈ (if (kB D s (P j) j).length = 0 then cT D s P j else cT D s P j ++ eBt (nI (bB D s)) (nI (bP D (sb D s j))) (bS D (sb D s j)) (kB D s (P j) j)) := hx
    split at hx'
    · exact h x hx'
    · rcases List.mem_append.mp hx' with h1 | h1
      · exact h x h1
      · exact eBt_by _ _ _ _ x h1
theorem cF_by (D : Nat → Nat) (s : Nat) (P : Nat → Nat → Bool) (c : Nat) : ∀ x ∈ cF D s P c, x < 256 := by
  intro x hx
  unfold cF at hx
  rcases List.mem_or_eq_of_mem_set hx with h1 | h1
  · rcases List.mem_or_eq_of_mem_set h1 with h2 | h2
    · exact cT_by D s P c x h2
    · omega
  · omega
section S66
variable {n u : Nat} {I : Nat → Int32} {A : Nat → Nat → Int32} {J : Int64} {B : Nat → Int64} {mk sn L : Nat} {xs : Nat → Int32} {X : Nat → mC} {D : Nat → Nat} 
set_option maxRecDepth 100000 in
set_option maxHeartbeats 4000000 in
theorem l_102_2 {x r : Nat} {t : List Nat} (hr : r < 16) (hb : ∀ i, gB0 t i < 256) (hmk : mks mk sn) (ht : t.length ≤ 128) (hn : 77 ≤ n ∧ n < 10000) (hu : u + 6 < 1000000) {Q : mO × mHp → Prop} : ∀ (z m : Nat) {S : DS} {I : Nat → Int32} {A : Nat → Nat → Int32}, (m + z = 4) → (kD mk S I A) → (dO S = false) → (Pg 14 3 128 I A t) → (dO (wrs S (spW r 0 (up32 t.length) t z (32 * m))) = false → ∀ I' A' m', Fr [2, 3] I I' → Fr [0] A A' → kD mk (wrs S (spW r 0 (up32 t.length) t z (32 * m))) I' A' → mq 102 68 [some (.ref 1), some (.ref 23), some (.int (nI x)), some (.int (nI r)), some (.int (nI m'))] [] (hS n u I' A' J B mk sn L xs X) Q) → (dO (wrs S (spW r 0 (up32 t.length) t z (32 * m))) = true → ∀ I' A', Up 60 I I' → Up 50 A A' → kD mk (wrs S (spW r 0 (up32 t.length) t z (32 * m))) I' A' → Q (.inr n, hS (n + 1) (u + 6) I' A' J B mk sn L xs (va_up X n (.inr (9, []))))) → mq 102 30 [some (.ref 1), some (.ref 23), some (.int (nI x)), some (.int (nI r)), some (.int (nI (32 * m)))] [] (hS n u I A J B mk sn L xs X) Q := by
  intro z
  induction z with
  | zero =>
    intro m S I A hz hD ho hP kk kx
    refine x_il2 (pc := 30) rfl rfl ?_
    refine x_al1 (pc := 32) rfl rfl ?_
    refine g_1_7 (pc := 33) rfl rfl ?_
    refine g_49_1 (pc := 36) (v := nI t.length) rfl rfl hP.1 ?_
    refine x_cmpN_ge (pc := 39) (t := 68) rfl rfl (by omega) (by omega) (fun c39 => ?_) (fun c39 => ?_)
    · have ev : wrs S (spW r 0 (up32 t.length) t (0) (32 * m)) = S := by
        rfl
      exact kk (by rw [ev]; exact ho) I A _ (Fr_refl _ _) (Fr_refl _ _) (by rw [ev]; exact hD)
    · omega
  | succ z ih =>
    intro m S I A hz hD ho hP kk kx
    refine x_il2 (pc := 30) rfl rfl ?_
    refine x_al1 (pc := 32) rfl rfl ?_
    refine g_1_7 (pc := 33) rfl rfl ?_
    refine g_49_1 (pc := 36) (v := nI t.length) rfl rfl hP.1 ?_
    refine x_cmpN_ge (pc := 39) (t := 68) rfl rfl (by omega) (by omega) (fun c39 => ?_) (fun c39 => ?_)
    · have ev : wrs S (spW r 0 (up32 t.length) t (z + 1) (32 * m)) = S := by
        show wrs S (if 32 * m < up32 t.length then _ else _) = _
        rw [if_neg (by unfold up32; omega)]
        rfl
      exact kk (by rw [ev]; exact ho) I A _ (Fr_refl _ _) (Fr_refl _ _) (by rw [ev]; exact hD)
    · have e32 : nK (32 * m) (up32 t.length) = 32 * (m + 1) := by
        unfold nK up32
        split <;> omega
      have ev : wrs S (spW r 0 (up32 t.length) t (z + 1) (32 * m)) = wrs (wr1 S (wi (128 * r + 32 * m) 32 (fun i => gB0 t (32 * m + i)))) (spW r 0 (up32 t.length) t z (32 * (m + 1))) := by
        show wrs S (if 32 * m < up32 t.length then _ else _) = _
        rw [if_pos (by unfold up32; omega), e32, show 32 * (m + 1) - 32 * m = 32 by omega, Nat.sub_zero]
        rfl
      refine x_al1 (pc := 42) rfl rfl ?_
      refine x_il1 (pc := 43) rfl rfl ?_
      refine x_const (pc := 44) (pc' := 47) (.int (nI 128)) rfl rfl rfl rfl ?_
      refine x_imulN (pc := 47) (c := r * 128) rfl rfl ?_
      refine x_il2 (pc := 48) rfl rfl ?_
      refine x_iaddV (pc := 50) (v := nI (128 * r + 32 * m)) rfl ((nI_add _ _).trans (congrArg nI (by omega))) ?_
      refine x_al1 (pc := 51) rfl rfl ?_
      refine g_1_7 (pc := 52) rfl rfl ?_
      refine x_il2 (pc := 55) rfl rfl ?_
      refine x_const (pc := 57) (pc' := 59) (.int (nI 32)) rfl rfl rfl rfl ?_
      refine x_k (pc := 59) rfl rfl rfl ⟨Nat.le_of_ble_eq_true rfl, Nat.le_of_ble_eq_true rfl, Nat.le_of_ble_eq_true rfl⟩ rfl (k_28_49 (I := I) (A := A) (S := S) (p := 128 * r + 32 * m) (f := 32 * m) (c := 32) (t := t) hD ho hmk hb (by omega) (by omega) hP hn hu (fun o3 I3 A3 f3 g3 h3 => ?_) (fun o3 I3 A3 f3 g3 h3 => mK_x rfl (kx (by rw [ev, wrs_off _ o3]; exact o3) I3 A3 f3 g3 (by rw [ev, wrs_off _ o3]; exact h3))))
      show mq 102 62 [some (.ref 1), some (.ref 23), some (.int (nI x)), some (.int (nI r)), some (.int (nI (32 * m)))] [] (hS n u I3 A3 J B mk sn L xs X) _
      refine x_iincN (pc := 62) (c := 32) (ml' := [some (.ref 1), some (.ref 23), some (.int (nI x)), some (.int (nI r)), some (.int (nI (32 * m + 32)))]) rfl rfl rfl rfl ?_
      refine x_step (pc := 65) (pc' := 30) rfl rfl rfl rfl ?_
      refine ih (m + 1) (S := wr1 S (wi (128 * r + 32 * m) 32 (fun i => gB0 t (32 * m + i)))) (I := I3) (A := A3) (by omega) h3 o3 (Pg_fr hP f3 g3 (by decide) (by decide)) (fun o4 I4 A4 y f4 g4 h4 => kk (by rw [ev]; exact o4) I4 A4 y (Fr_cons f3 f4 (by decide)) (Fr_cons g3 g4 (by decide)) (by rw [ev]; exact h4)) (fun o4 I4 A4 f4 g4 h4 => kx (by rw [ev]; exact o4) I4 A4 (Up_tr (Up_fr f3 (by decide)) f4) (Up_tr (Up_fr g3 (by decide)) g4) (by rw [ev]; exact h4))
set_option maxRecDepth 100000 in
set_option maxHeartbeats 4000000 in
theorem k_102_2 {S : DS} (hD : kD mk S I A) (ho : dO S = false) {x : Nat} {f : Nat → Nat} {t : List Nat} (hP : Pg 14 3 128 I A t) (hx : x < 16) (hsl : A 38 x = nI (f x)) (hmk : mks mk sn) (hn : 77 ≤ n ∧ n < 10000) (hu : u + 6 < 1000000) (hb : ∀ i, gB0 t i < 256) (ht : t.length ≤ 128) {r : Nat} (hr : r < 16) (hfr : frS (dD S) 16 0 = nI r) (hfx : f x < 16) {Q : mO × mHp → Prop} (kk : dO (wrs S (mvW r 2 (f x) t)) = false → ∀ I' A', Fr [2, 3, 15] I I' → Fr [0, 4, 38] A A' → kD mk (wrs S (mvW r 2 (f x) t)) I' A' → A' 38 = upd (A 38) x (nI r) → Q (.inl (some (.int (nI 1))), hS n u I' A' J B mk sn L xs X)) (kx : dO (wrs S (mvW r 2 (f x) t)) = true → ∀ I' A', Up 60 I I' → Up 50 A A' → kD mk (wrs S (mvW r 2 (f x) t)) I' A' → Q (.inr n, hS (n + 1) (u + 6) I' A' J B mk sn L xs (va_up X n (.inr (9, []))))) : mq 102 0 [some (.ref 1), some (.ref 23), some (.int (nI x)), none, none] [] (hS n u I A J B mk sn L xs X) Q := by
  have ev : wrs S (mvW r 2 (f x) t) = wr1 (wr1 (wrs S (spW r 0 (up32 t.length) t 4 0)) (owW r 3)) (owW (f x) 0) := by
    unfold mvW
    rw [wrs_app]
    rfl
  refine x_al1 (pc := 0) rfl rfl ?_
  refine g_1_0 (pc := 1) rfl rfl ?_
  refine x_k (pc := 4) rfl rfl rfl ⟨Nat.le_of_ble_eq_true rfl, Nat.le_of_ble_eq_true rfl, Nat.le_of_ble_eq_true rfl⟩ rfl (mq_k (c_71 (I := I) (A := A) (D := dD S) hD.2.1) ?_)
  show mq 102 7 [some (.ref 1), some (.ref 23), some (.int (nI x)), none, none] [.int (frS (dD S) 16 0)] (hS n u I A J B mk sn L xs X) _
  refine x_top (y := nI r) (hfr) ?_
  refine x_is1 (pc := 7) (ml' := [some (.ref 1), some (.ref 23), some (.int (nI x)), some (.int (nI r)), none]) rfl rfl ?_
  refine x_il1 (pc := 8) rfl rfl ?_
  refine x_ifN_lt (pc := 9) (t := 25) rfl rfl (by omega) ?_
  refine x_al1 (pc := 12) rfl rfl ?_
  refine g_1_7 (pc := 13) rfl rfl ?_
  refine g_49_1 (pc := 16) (v := nI t.length) rfl rfl hP.1 ?_
  refine x_const (pc := 19) (pc' := 22) (.int (nI 128)) rfl rfl rfl rfl ?_
  refine x_cmpN_le (pc := 22) (t := 27) rfl rfl (by omega) (by omega) (fun c22 => ?_) (fun c22 => ?_)
  · refine x_const (pc := 27) (pc' := 28) (.int (nI 0)) rfl rfl rfl rfl ?_
    refine x_is2 (pc := 28) (ml' := [some (.ref 1), some (.ref 23), some (.int (nI x)), some (.int (nI r)), some (.int (nI 0))]) rfl rfl ?_
    refine l_102_2 (x := x) (r := r) (t := t) hr hb hmk ht hn hu 4 0 rfl hD ho hP (fun o7 I7 A7 y f7 g7 h7 => ?_) (fun o7 I7 A7 f7 g7 h7 => kx (by rw [ev, wr1_off _ (by rw [wr1_off _ o7]; exact o7), wr1_off _ o7]; exact o7) I7 A7 f7 g7 (by rw [ev, wr1_off _ (by rw [wr1_off _ o7]; exact o7), wr1_off _ o7]; exact h7))
    refine x_al1 (pc := 68) rfl rfl ?_
    refine x_il1 (pc := 69) rfl rfl ?_
    refine x_al1 (pc := 70) rfl rfl ?_
    refine g_23_0 (pc := 71) rfl rfl ?_
    refine x_const (pc := 74) (pc' := 75) (.int (nI 1)) rfl rfl rfl rfl ?_
    refine x_iaddN (pc := 75) (c := 3) rfl rfl ?_
    refine x_k (pc := 76) rfl rfl rfl ⟨Nat.le_of_ble_eq_true rfl, Nat.le_of_ble_eq_true rfl, Nat.le_of_ble_eq_true rfl⟩ rfl (k_24 (I := I7) (A := A7) (S := wrs S (spW r 0 (up32 t.length) t 4 0)) (s := r) (v := 3) hr (by decide) h7 o7 hmk hn hu (fun o8 I8 A8 f8 g8 h8 => ?_) (fun o8 I8 A8 f8 g8 h8 => mK_x rfl (kx (by rw [ev, wr1_off _ o8]; exact o8) I8 A8 (Up_tr (Up_fr f7 (by decide)) f8) (Up_tr (Up_fr g7 (by decide)) g8) (by rw [ev, wr1_off _ o8]; exact h8))))
    show mq 102 79 [some (.ref 1), some (.ref 23), some (.int (nI x)), some (.int (nI r)), some (.int (nI y))] [] (hS n u I8 A8 J B mk sn L xs X) _
    refine x_al1 (pc := 79) rfl rfl ?_
    refine x_al1 (pc := 80) rfl rfl ?_
    refine g_23_1 (pc := 81) rfl rfl ?_
    refine x_il1 (pc := 84) rfl rfl ?_
    refine al_24 (pc := 85) (q := x) (v := nI (f x)) rfl rfl (by omega) (show A8 38 x = nI (f x) by rw [g8 38 (by decide), g7 38 (by decide)]; exact hsl) ?_
    refine x_const (pc := 86) (pc' := 87) (.int (nI 0)) rfl rfl rfl rfl ?_
    refine x_k (pc := 87) rfl rfl rfl ⟨Nat.le_of_ble_eq_true rfl, Nat.le_of_ble_eq_true rfl, Nat.le_of_ble_eq_true rfl⟩ rfl (k_24 (I := I8) (A := A8) (S := wr1 (wrs S (spW r 0 (up32 t.length) t 4 0)) (owW r 3)) (s := f x) (v := 0) hfx (by decide) h8 o8 hmk hn hu (fun o9 I9 A9 f9 g9 h9 => ?_) (fun o9 I9 A9 f9 g9 h9 => mK_x rfl (kx (by rw [ev]; exact o9) I9 A9 (Up_tr (Up_fr f7 (by decide)) (Up_tr (Up_fr f8 (by decide)) f9)) (Up_tr (Up_fr g7 (by decide)) (Up_tr (Up_fr g8 (by decide)) g9)) (by rw [ev]; exact h9))))
    show mq 102 90 [some (.ref 1), some (.ref 23), some (.int (nI x)), some (.int (nI r)), some (.int (nI y))] [] (hS n u I9 A9 J B mk sn L xs X) _
    refine x_al1 (pc := 90) rfl rfl ?_
    refine g_23_1 (pc := 91) rfl rfl ?_
    refine x_il1 (pc := 94) rfl rfl ?_
    refine x_il1 (pc := 95) rfl rfl ?_
    refine as_24 (pc := 96) (q := x) rfl rfl (by omega) ?_
    refine x_const (pc := 97) (pc' := 98) (.int (nI 1)) rfl rfl rfl rfl ?_
    refine x_ret (pc := 98) rfl rfl ?_
    exact kk (by rw [ev]; exact o9) _ _ (Fr_cons (Fr_cons (Fr_cons (Fr_refl _ _) f7 (by decide)) f8 (by decide)) f9 (by decide)) (Fr_u (Fr_cons (Fr_cons (Fr_cons (Fr_refl _ _) g7 (by decide)) g8 (by decide)) g9 (by decide)) (by decide)) (kD_on (by rw [ev]; exact h9) (by rw [ev]; exact o9) (Fr_refl [] I9) (Fr_up A9 38 _) (by decide) (by decide)) (show upd (A9 38) x (nI r) = _ by rw [g9 38 (by decide), g8 38 (by decide), g7 38 (by decide)])
  · omega
set_option maxRecDepth 100000 in
set_option maxHeartbeats 4000000 in
theorem k_102n_2 {S : DS} (hD : kD mk S I A) (ho : dO S = false) {x : Nat} {f : Nat → Nat} {t : List Nat} (hP : Pg 14 3 128 I A t) (hx : x < 16) (hsl : A 38 x = nI (f x)) (hno : frS (dD S) 16 0 = -1 ∨ 128 < t.length) (ht : t.length < 1000) {Q : mO × mHp → Prop} (kk : Q (.inl (some (.int (nI 0))), hS n u I A J B mk sn L xs X)) : mq 102 0 [some (.ref 1), some (.ref 23), some (.int (nI x)), none, none] [] (hS n u I A J B mk sn L xs X) Q := by
  rcases frN_spec (dD S) 16 0 with h5 | h5
  · show mq 102 0 [some (.ref 1), some (.ref 23), some (.int (nI x)), none, none] [] (hS n u I A J B mk sn L xs X) _
    refine x_al1 (pc := 0) rfl rfl ?_
    refine g_1_0 (pc := 1) rfl rfl ?_
    refine x_k (pc := 4) rfl rfl rfl ⟨Nat.le_of_ble_eq_true rfl, Nat.le_of_ble_eq_true rfl, Nat.le_of_ble_eq_true rfl⟩ rfl (mq_k (c_71 (I := I) (A := A) (D := dD S) hD.2.1) ?_)
    show mq 102 7 [some (.ref 1), some (.ref 23), some (.int (nI x)), none, none] [.int (frS (dD S) 16 0)] (hS n u I A J B mk sn L xs X) _
    refine x_top (y := (-1)) (h5.1) ?_
    refine x_is1 (pc := 7) (ml' := [some (.ref 1), some (.ref 23), some (.int (nI x)), some (.int (-1)), none]) rfl rfl ?_
    refine x_il1 (pc := 8) rfl rfl ?_
    refine x_if_lt (pc := 9) (t := 25) rfl rfl rfl (fun _ => ?_) (fun c => absurd (by decide) c)
    refine x_const (pc := 25) (pc' := 26) (.int (nI 0)) rfl rfl rfl rfl ?_
    refine x_ret (pc := 26) rfl rfl ?_
    exact kk
  · show mq 102 0 [some (.ref 1), some (.ref 23), some (.int (nI x)), none, none] [] (hS n u I A J B mk sn L xs X) _
    refine x_al1 (pc := 0) rfl rfl ?_
    refine g_1_0 (pc := 1) rfl rfl ?_
    refine x_k (pc := 4) rfl rfl rfl ⟨Nat.le_of_ble_eq_true rfl, Nat.le_of_ble_eq_true rfl, Nat.le_of_ble_eq_true rfl⟩ rfl (mq_k (c_71 (I := I) (A := A) (D := dD S) hD.2.1) ?_)
    show mq 102 7 [some (.ref 1), some (.ref 23), some (.int (nI x)), none, none] [.int (frS (dD S) 16 0)] (hS n u I A J B mk sn L xs X) _
    refine x_top (y := nI (frN (dD S) 16 0)) (h5.1) ?_
    refine x_is1 (pc := 7) (ml' := [some (.ref 1), some (.ref 23), some (.int (nI x)), some (.int (nI (frN (dD S) 16 0))), none]) rfl rfl ?_
    refine x_il1 (pc := 8) rfl rfl ?_
    refine x_ifN_lt (pc := 9) (t := 25) rfl rfl (by omega) ?_
    refine x_al1 (pc := 12) rfl rfl ?_
    refine g_1_7 (pc := 13) rfl rfl ?_
    refine g_49_1 (pc := 16) (v := nI t.length) rfl rfl hP.1 ?_
    refine x_const (pc := 19) (pc' := 22) (.int (nI 128)) rfl rfl rfl rfl ?_
    refine x_cmpN_le (pc := 22) (t := 27) rfl rfl (by omega) (by omega) (fun c22 => ?_) (fun c22 => ?_)
    · rcases hno with h | h
      · exact absurd (h5.1.symm.trans h) (nI_m1 (by omega))
      · omega
    · refine x_const (pc := 25) (pc' := 26) (.int (nI 0)) rfl rfl rfl rfl ?_
      refine x_ret (pc := 26) rfl rfl ?_
      exact kk
set_option maxRecDepth 100000 in
set_option maxHeartbeats 4000000 in
theorem l_102_3 {x r : Nat} {t : List Nat} (hr : r < 16) (hb : ∀ i, gB0 t i < 256) (hmk : mks mk sn) (ht : t.length ≤ 128) (hn : 77 ≤ n ∧ n < 10000) (hu : u + 6 < 1000000) {Q : mO × mHp → Prop} : ∀ (z m : Nat) {S : DS} {I : Nat → Int32} {A : Nat → Nat → Int32}, (m + z = 4) → (kD mk S I A) → (dO S = false) → (Pg 14 3 128 I A t) → (dO (wrs S (spW r 0 (up32 t.length) t z (32 * m))) = false → ∀ I' A' m', Fr [2, 3] I I' → Fr [0] A A' → kD mk (wrs S (spW r 0 (up32 t.length) t z (32 * m))) I' A' → mq 102 68 [some (.ref 1), some (.ref 28), some (.int (nI x)), some (.int (nI r)), some (.int (nI m'))] [] (hS n u I' A' J B mk sn L xs X) Q) → (dO (wrs S (spW r 0 (up32 t.length) t z (32 * m))) = true → ∀ I' A', Up 60 I I' → Up 50 A A' → kD mk (wrs S (spW r 0 (up32 t.length) t z (32 * m))) I' A' → Q (.inr n, hS (n + 1) (u + 6) I' A' J B mk sn L xs (va_up X n (.inr (9, []))))) → mq 102 30 [some (.ref 1), some (.ref 28), some (.int (nI x)), some (.int (nI r)), some (.int (nI (32 * m)))] [] (hS n u I A J B mk sn L xs X) Q := by
  intro z
  induction z with
  | zero =>
    intro m S I A hz hD ho hP kk kx
    refine x_il2 (pc := 30) rfl rfl ?_
    refine x_al1 (pc := 32) rfl rfl ?_
    refine g_1_7 (pc := 33) rfl rfl ?_
    refine g_49_1 (pc := 36) (v := nI t.length) rfl rfl hP.1 ?_
    refine x_cmpN_ge (pc := 39) (t := 68) rfl rfl (by omega) (by omega) (fun c39 => ?_) (fun c39 => ?_)
    · have ev : wrs S (spW r 0 (up32 t.length) t (0) (32 * m)) = S := by
        rfl
      exact kk (by rw [ev]; exact ho) I A _ (Fr_refl _ _) (Fr_refl _ _) (by rw [ev]; exact hD)
    · omega
  | succ z ih =>
    intro m S I A hz hD ho hP kk kx
    refine x_il2 (pc := 30) rfl rfl ?_
    refine x_al1 (pc := 32) rfl rfl ?_
    refine g_1_7 (pc := 33) rfl rfl ?_
    refine g_49_1 (pc := 36) (v := nI t.length) rfl rfl hP.1 ?_
    refine x_cmpN_ge (pc := 39) (t := 68) rfl rfl (by omega) (by omega) (fun c39 => ?_) (fun c39 => ?_)
    · have ev : wrs S (spW r 0 (up32 t.length) t (z + 1) (32 * m)) = S := by
        show wrs S (if 32 * m < up32 t.length then _ else _) = _
        rw [if_neg (by unfold up32; omega)]
        rfl
      exact kk (by rw [ev]; exact ho) I A _ (Fr_refl _ _) (Fr_refl _ _) (by rw [ev]; exact hD)
    · have e32 : nK (32 * m) (up32 t.length) = 32 * (m + 1) := by
        unfold nK up32
        split <;> omega
      have ev : wrs S (spW r 0 (up32 t.length) t (z + 1) (32 * m)) = wrs (wr1 S (wi (128 * r + 32 * m) 32 (fun i => gB0 t (32 * m + i)))) (spW r 0 (up32 t.length) t z (32 * (m + 1))) := by
        show wrs S (if 32 * m < up32 t.length then _ else _) = _
        rw [if_pos (by unfold up32; omega), e32, show 32 * (m + 1) - 32 * m = 32 by omega, Nat.sub_zero]
        rfl
      refine x_al1 (pc := 42) rfl rfl ?_
      refine x_il1 (pc := 43) rfl rfl ?_
      refine x_const (pc := 44) (pc' := 47) (.int (nI 128)) rfl rfl rfl rfl ?_
      refine x_imulN (pc := 47) (c := r * 128) rfl rfl ?_
      refine x_il2 (pc := 48) rfl rfl ?_
      refine x_iaddV (pc := 50) (v := nI (128 * r + 32 * m)) rfl ((nI_add _ _).trans (congrArg nI (by omega))) ?_
      refine x_al1 (pc := 51) rfl rfl ?_
      refine g_1_7 (pc := 52) rfl rfl ?_
      refine x_il2 (pc := 55) rfl rfl ?_
      refine x_const (pc := 57) (pc' := 59) (.int (nI 32)) rfl rfl rfl rfl ?_
      refine x_k (pc := 59) rfl rfl rfl ⟨Nat.le_of_ble_eq_true rfl, Nat.le_of_ble_eq_true rfl, Nat.le_of_ble_eq_true rfl⟩ rfl (k_28_49 (I := I) (A := A) (S := S) (p := 128 * r + 32 * m) (f := 32 * m) (c := 32) (t := t) hD ho hmk hb (by omega) (by omega) hP hn hu (fun o3 I3 A3 f3 g3 h3 => ?_) (fun o3 I3 A3 f3 g3 h3 => mK_x rfl (kx (by rw [ev, wrs_off _ o3]; exact o3) I3 A3 f3 g3 (by rw [ev, wrs_off _ o3]; exact h3))))
      show mq 102 62 [some (.ref 1), some (.ref 28), some (.int (nI x)), some (.int (nI r)), some (.int (nI (32 * m)))] [] (hS n u I3 A3 J B mk sn L xs X) _
      refine x_iincN (pc := 62) (c := 32) (ml' := [some (.ref 1), some (.ref 28), some (.int (nI x)), some (.int (nI r)), some (.int (nI (32 * m + 32)))]) rfl rfl rfl rfl ?_
      refine x_step (pc := 65) (pc' := 30) rfl rfl rfl rfl ?_
      refine ih (m + 1) (S := wr1 S (wi (128 * r + 32 * m) 32 (fun i => gB0 t (32 * m + i)))) (I := I3) (A := A3) (by omega) h3 o3 (Pg_fr hP f3 g3 (by decide) (by decide)) (fun o4 I4 A4 y f4 g4 h4 => kk (by rw [ev]; exact o4) I4 A4 y (Fr_cons f3 f4 (by decide)) (Fr_cons g3 g4 (by decide)) (by rw [ev]; exact h4)) (fun o4 I4 A4 f4 g4 h4 => kx (by rw [ev]; exact o4) I4 A4 (Up_tr (Up_fr f3 (by decide)) f4) (Up_tr (Up_fr g3 (by decide)) g4) (by rw [ev]; exact h4))
set_option maxRecDepth 100000 in
set_option maxHeartbeats 4000000 in
theorem k_102_3 {S : DS} (hD : kD mk S I A) (ho : dO S = false) {x : Nat} {f : Nat → Nat} {t : List Nat} (hP : Pg 14 3 128 I A t) (hx : x < 16) (hsl : A 42 x = nI (f x)) (hmk : mks mk sn) (hn : 77 ≤ n ∧ n < 10000) (hu : u + 6 < 1000000) (hb : ∀ i, gB0 t i < 256) (ht : t.length ≤ 128) {r : Nat} (hr : r < 16) (hfr : frS (dD S) 16 0 = nI r) (hfx : f x < 16) {Q : mO × mHp → Prop} (kk : dO (wrs S (mvW r 3 (f x) t)) = false → ∀ I' A', Fr [2, 3, 15] I I' → Fr [0, 4, 42] A A' → kD mk (wrs S (mvW r 3 (f x) t)) I' A' → A' 42 = upd (A 42) x (nI r) → Q (.inl (some (.int (nI 1))), hS n u I' A' J B mk sn L xs X)) (kx : dO (wrs S (mvW r 3 (f x) t)) = true → ∀ I' A', Up 60 I I' → Up 50 A A' → kD mk (wrs S (mvW r 3 (f x) t)) I' A' → Q (.inr n, hS (n + 1) (u + 6) I' A' J B mk sn L xs (va_up X n (.inr (9, []))))) : mq 102 0 [some (.ref 1), some (.ref 28), some (.int (nI x)), none, none] [] (hS n u I A J B mk sn L xs X) Q := by
  have ev : wrs S (mvW r 3 (f x) t) = wr1 (wr1 (wrs S (spW r 0 (up32 t.length) t 4 0)) (owW r 4)) (owW (f x) 0) := by
    unfold mvW
    rw [wrs_app]
    rfl
  refine x_al1 (pc := 0) rfl rfl ?_
  refine g_1_0 (pc := 1) rfl rfl ?_
  refine x_k (pc := 4) rfl rfl rfl ⟨Nat.le_of_ble_eq_true rfl, Nat.le_of_ble_eq_true rfl, Nat.le_of_ble_eq_true rfl⟩ rfl (mq_k (c_71 (I := I) (A := A) (D := dD S) hD.2.1) ?_)
  show mq 102 7 [some (.ref 1), some (.ref 28), some (.int (nI x)), none, none] [.int (frS (dD S) 16 0)] (hS n u I A J B mk sn L xs X) _
  refine x_top (y := nI r) (hfr) ?_
  refine x_is1 (pc := 7) (ml' := [some (.ref 1), some (.ref 28), some (.int (nI x)), some (.int (nI r)), none]) rfl rfl ?_
  refine x_il1 (pc := 8) rfl rfl ?_
  refine x_ifN_lt (pc := 9) (t := 25) rfl rfl (by omega) ?_
  refine x_al1 (pc := 12) rfl rfl ?_
  refine g_1_7 (pc := 13) rfl rfl ?_
  refine g_49_1 (pc := 16) (v := nI t.length) rfl rfl hP.1 ?_
  refine x_const (pc := 19) (pc' := 22) (.int (nI 128)) rfl rfl rfl rfl ?_
  refine x_cmpN_le (pc := 22) (t := 27) rfl rfl (by omega) (by omega) (fun c22 => ?_) (fun c22 => ?_)
  · refine x_const (pc := 27) (pc' := 28) (.int (nI 0)) rfl rfl rfl rfl ?_
    refine x_is2 (pc := 28) (ml' := [some (.ref 1), some (.ref 28), some (.int (nI x)), some (.int (nI r)), some (.int (nI 0))]) rfl rfl ?_
    refine l_102_3 (x := x) (r := r) (t := t) hr hb hmk ht hn hu 4 0 rfl hD ho hP (fun o7 I7 A7 y f7 g7 h7 => ?_) (fun o7 I7 A7 f7 g7 h7 => kx (by rw [ev, wr1_off _ (by rw [wr1_off _ o7]; exact o7), wr1_off _ o7]; exact o7) I7 A7 f7 g7 (by rw [ev, wr1_off _ (by rw [wr1_off _ o7]; exact o7), wr1_off _ o7]; exact h7))
    refine x_al1 (pc := 68) rfl rfl ?_
    refine x_il1 (pc := 69) rfl rfl ?_
    refine x_al1 (pc := 70) rfl rfl ?_
    refine g_28_0 (pc := 71) rfl rfl ?_
    refine x_const (pc := 74) (pc' := 75) (.int (nI 1)) rfl rfl rfl rfl ?_
    refine x_iaddN (pc := 75) (c := 4) rfl rfl ?_
    refine x_k (pc := 76) rfl rfl rfl ⟨Nat.le_of_ble_eq_true rfl, Nat.le_of_ble_eq_true rfl, Nat.le_of_ble_eq_true rfl⟩ rfl (k_24 (I := I7) (A := A7) (S := wrs S (spW r 0 (up32 t.length) t 4 0)) (s := r) (v := 4) hr (by decide) h7 o7 hmk hn hu (fun o8 I8 A8 f8 g8 h8 => ?_) (fun o8 I8 A8 f8 g8 h8 => mK_x rfl (kx (by rw [ev, wr1_off _ o8]; exact o8) I8 A8 (Up_tr (Up_fr f7 (by decide)) f8) (Up_tr (Up_fr g7 (by decide)) g8) (by rw [ev, wr1_off _ o8]; exact h8))))
    show mq 102 79 [some (.ref 1), some (.ref 28), some (.int (nI x)), some (.int (nI r)), some (.int (nI y))] [] (hS n u I8 A8 J B mk sn L xs X) _
    refine x_al1 (pc := 79) rfl rfl ?_
    refine x_al1 (pc := 80) rfl rfl ?_
    refine g_28_1 (pc := 81) rfl rfl ?_
    refine x_il1 (pc := 84) rfl rfl ?_
    refine al_29 (pc := 85) (q := x) (v := nI (f x)) rfl rfl (by omega) (show A8 42 x = nI (f x) by rw [g8 42 (by decide), g7 42 (by decide)]; exact hsl) ?_
    refine x_const (pc := 86) (pc' := 87) (.int (nI 0)) rfl rfl rfl rfl ?_
    refine x_k (pc := 87) rfl rfl rfl ⟨Nat.le_of_ble_eq_true rfl, Nat.le_of_ble_eq_true rfl, Nat.le_of_ble_eq_true rfl⟩ rfl (k_24 (I := I8) (A := A8) (S := wr1 (wrs S (spW r 0 (up32 t.length) t 4 0)) (owW r 4)) (s := f x) (v := 0) hfx (by decide) h8 o8 hmk hn hu (fun o9 I9 A9 f9 g9 h9 => ?_) (fun o9 I9 A9 f9 g9 h9 => mK_x rfl (kx (by rw [ev]; exact o9) I9 A9 (Up_tr (Up_fr f7 (by decide)) (Up_tr (Up_fr f8 (by decide)) f9)) (Up_tr (Up_fr g7 (by decide)) (Up_tr (Up_fr g8 (by decide)) g9)) (by rw [ev]; exact h9))))
    show mq 102 90 [some (.ref 1), some (.ref 28), some (.int (nI x)), some (.int (nI r)), some (.int (nI y))] [] (hS n u I9 A9 J B mk sn L xs X) _
    refine x_al1 (pc := 90) rfl rfl ?_
    refine g_28_1 (pc := 91) rfl rfl ?_
    refine x_il1 (pc := 94) rfl rfl ?_
    refine x_il1 (pc := 95) rfl rfl ?_
    refine as_29 (pc := 96) (q := x) rfl rfl (by omega) ?_
    refine x_const (pc := 97) (pc' := 98) (.int (nI 1)) rfl rfl rfl rfl ?_
    refine x_ret (pc := 98) rfl rfl ?_
    exact kk (by rw [ev]; exact o9) _ _ (Fr_cons (Fr_cons (Fr_cons (Fr_refl _ _) f7 (by decide)) f8 (by decide)) f9 (by decide)) (Fr_u (Fr_cons (Fr_cons (Fr_cons (Fr_refl _ _) g7 (by decide)) g8 (by decide)) g9 (by decide)) (by decide)) (kD_on (by rw [ev]; exact h9) (by rw [ev]; exact o9) (Fr_refl [] I9) (Fr_up A9 42 _) (by decide) (by decide)) (show upd (A9 42) x (nI r) = _ by rw [g9 42 (by decide), g8 42 (by decide), g7 42 (by decide)])
  · omega
set_option maxRecDepth 100000 in
set_option maxHeartbeats 4000000 in
theorem k_102n_3 {S : DS} (hD : kD mk S I A) (ho : dO S = false) {x : Nat} {f : Nat → Nat} {t : List Nat} (hP : Pg 14 3 128 I A t) (hx : x < 16) (hsl : A 42 x = nI (f x)) (hno : frS (dD S) 16 0 = -1 ∨ 128 < t.length) (ht : t.length < 1000) {Q : mO × mHp → Prop} (kk : Q (.inl (some (.int (nI 0))), hS n u I A J B mk sn L xs X)) : mq 102 0 [some (.ref 1), some (.ref 28), some (.int (nI x)), none, none] [] (hS n u I A J B mk sn L xs X) Q := by
  rcases frN_spec (dD S) 16 0 with h5 | h5
  · show mq 102 0 [some (.ref 1), some (.ref 28), some (.int (nI x)), none, none] [] (hS n u I A J B mk sn L xs X) _
    refine x_al1 (pc := 0) rfl rfl ?_
    refine g_1_0 (pc := 1) rfl rfl ?_
    refine x_k (pc := 4) rfl rfl rfl ⟨Nat.le_of_ble_eq_true rfl, Nat.le_of_ble_eq_true rfl, Nat.le_of_ble_eq_true rfl⟩ rfl (mq_k (c_71 (I := I) (A := A) (D := dD S) hD.2.1) ?_)
    show mq 102 7 [some (.ref 1), some (.ref 28), some (.int (nI x)), none, none] [.int (frS (dD S) 16 0)] (hS n u I A J B mk sn L xs X) _
    refine x_top (y := (-1)) (h5.1) ?_
    refine x_is1 (pc := 7) (ml' := [some (.ref 1), some (.ref 28), some (.int (nI x)), some (.int (-1)), none]) rfl rfl ?_
    refine x_il1 (pc := 8) rfl rfl ?_
    refine x_if_lt (pc := 9) (t := 25) rfl rfl rfl (fun _ => ?_) (fun c => absurd (by decide) c)
    refine x_const (pc := 25) (pc' := 26) (.int (nI 0)) rfl rfl rfl rfl ?_
    refine x_ret (pc := 26) rfl rfl ?_
    exact kk
  · show mq 102 0 [some (.ref 1), some (.ref 28), some (.int (nI x)), none, none] [] (hS n u I A J B mk sn L xs X) _
    refine x_al1 (pc := 0) rfl rfl ?_
    refine g_1_0 (pc := 1) rfl rfl ?_
    refine x_k (pc := 4) rfl rfl rfl ⟨Nat.le_of_ble_eq_true rfl, Nat.le_of_ble_eq_true rfl, Nat.le_of_ble_eq_true rfl⟩ rfl (mq_k (c_71 (I := I) (A := A) (D := dD S) hD.2.1) ?_)
    show mq 102 7 [some (.ref 1), some (.ref 28), some (.int (nI x)), none, none] [.int (frS (dD S) 16 0)] (hS n u I A J B mk sn L xs X) _
    refine x_top (y := nI (frN (dD S) 16 0)) (h5.1) ?_
    refine x_is1 (pc := 7) (ml' := [some (.ref 1), some (.ref 28), some (.int (nI x)), some (.int (nI (frN (dD S) 16 0))), none]) rfl rfl ?_
    refine x_il1 (pc := 8) rfl rfl ?_
    refine x_ifN_lt (pc := 9) (t := 25) rfl rfl (by omega) ?_
    refine x_al1 (pc := 12) rfl rfl ?_
    refine g_1_7 (pc := 13) rfl rfl ?_
    refine g_49_1 (pc := 16) (v := nI t.length) rfl rfl hP.1 ?_
    refine x_const (pc := 19) (pc' := 22) (.int (nI 128)) rfl rfl rfl rfl ?_
    refine x_cmpN_le (pc := 22) (t := 27) rfl rfl (by omega) (by omega) (fun c22 => ?_) (fun c22 => ?_)
    · rcases hno with h | h
      · exact absurd (h5.1.symm.trans h) (nI_m1 (by omega))
      · omega
    · refine x_const (pc := 25) (pc' := 26) (.int (nI 0)) rfl rfl rfl rfl ?_
      refine x_ret (pc := 26) rfl rfl ?_
      exact kk
end S66
