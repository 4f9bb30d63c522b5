/-! recover: the class, whole. -/
theorem upd_pt {c c' : Nat → Int32} {k : Nat} {v : Int32} (h : ∀ x, x < 32 → c x = c' x) : ∀ x, x < 32 → upd c k v x = upd c' k v x := fun x hx => by
  by_cases hk : x = k
  · rw [hk, pk_us, pk_us]
  · rw [pk_un hk, pk_un hk]
    exact h x hx
theorem cm1_pt {D : Nat → Nat} {q : Nat} : ∀ (z k : Nat) {c c' : Nat → Int32}, (∀ x, x < 32 → c x = c' x) → ∀ x, x < 32 → cm1 D q z k c x = cm1 D q z k c' x
  | 0, _, _, _, h => h
  | z + 1, k, _, _, h => cm1_pt z (k + 1) (upd_pt h)
theorem cmS_pt {D : Nat → Nat} {s : Nat} : ∀ (z j : Nat) {c c' : Nat → Int32}, (∀ x, x < 32 → c x = c' x) → ∀ x, x < 32 → cmS D s z j c x = cmS D s z j c' x
  | 0, _, _, _, h => h
  | z + 1, j, _, _, h => cmS_pt z (j + 1) (cm1_pt _ _ h)
theorem cmL_pt {D : Nat → Nat} {f bc : Nat → Nat} : ∀ (z k : Nat) {c c' : Nat → Int32}, (∀ x, x < 32 → c x = c' x) → ∀ x, x < 32 → cmL D f bc z k c x = cmL D f bc z k c' x
  | 0, _, _, _, h => h
  | z + 1, k, _, _, h => cmL_pt z (k + 1) (cmS_pt _ _ h)
theorem WL_key {D : Nat → Nat} {f bc : Nat → Nat} {n N : Nat} (h : WL D 3 f bc n N) : ∀ k, k < n → ∀ j, j < bc (f k) → ∀ r, r < bN D (sb D (f k) j) → uN (kR D (sb D (f k) j) r) < 32 := fun k hk j hj r hr => by
  obtain ⟨q, hq, e⟩ := h.2.2.2.2.2.2 rfl k hk (r5 D (bB D (f k)) (sb D (f k) j) r) (fl_in hj (mp_in _ hr))
  rw [show kR D (sb D (f k) j) r = nI q from e, uN_nI (by omega)]
  exact hq
theorem WL_dis {D : Nat → Nat} {F : Nat → Nat → Nat} {bc c N : Nat → Nat} (h : ∀ l, l < 4 → WL D l (F l) bc (c l) (N l)) (ho4 : ∀ s, s < 16 → oB D s ≤ 4) : ∀ s t, s < 16 → t < 16 → ¬ s = t → oB D s = oB D t → ¬ oB D s = 0 → ¬ bB D s = bB D t := fun s t hs ht hst ho h0 hb => by
  obtain ⟨l, hl⟩ : ∃ l, oB D s = l + 1 := ⟨oB D s - 1, by omega⟩
  have hl4 : l < 4 := by have := ho4 s hs; omega
  have hw := (h l hl4).1
  obtain ⟨j, hj, ej⟩ := hw.2.1 s hs hl
  obtain ⟨k, hk, ek⟩ := hw.2.1 t ht (ho ▸ hl)
  rcases Nat.lt_trichotomy j k with q | q | q
  · have h1 := hw.2.2 j k q hk
    rw [ej, ek] at h1
    omega
  · rw [q, ek] at ej
    exact hst ej.symm
  · have h1 := hw.2.2 k j q hj
    rw [ej, ek] at h1
    omega
/-- on again -/
def S00 (S : DS) : DS := dS (dD S) none (dN S) false
/-- what the class knows of log l -/
def LK (l : Nat) (D : Nat → Nat) (f bc : Nat → Nat) (n : Nat) (I : Nat → Int32) (A : Nat → Nat → Int32) : Prop := I (40 + 3 * l) = nI n ∧ (∀ k, k < n → A (30 + 4 * l) k = nI (f k)) ∧ I (41 + 3 * l) = stO D f l n ∧ I (42 + 3 * l) = nxO D f bc n
theorem LK_fr {l n : Nat} {D : Nat → Nat} {f bc : Nat → Nat} {I I' : Nat → Int32} {A A' : Nat → Nat → Int32} {X Y : List Nat} (h : LK l D f bc n I A) (f' : Fr X I I') (g : Fr Y A A') (hx : 40 + 3 * l ∉ X ∧ 41 + 3 * l ∉ X ∧ 42 + 3 * l ∉ X) (hy : 30 + 4 * l ∉ Y) : LK l D f bc n I' A' := ⟨(f' _ hx.1).trans h.1, fun k hk => by rw [g _ hy]; exact h.2.1 k hk, (f' _ hx.2.1).trans h.2.2.1, (f' _ hx.2.2).trans h.2.2.2⟩
section S77
variable {n u : Nat} {I : Nat → Int32} {A : Nat → Nat → Int32} {J : Int64} {B : Nat → Int64} {mk sn L : Nat} {xs : Nat → Int32} {X : Nat → mC} {D : Nat → Nat} 
set_option maxRecDepth 100000 in
set_option maxHeartbeats 4000000 in
theorem k_16 {S : DS} (hd3 : I 3 = nI (dN S)) (hdk : DK (A 0) (dD S)) (hmk : mks mk sn) (hn : 77 ≤ n ∧ n < 10000) (hu : u + 6 < 1000000) (hB : HB (dD S)) {F : Nat → Nat → Nat} {bc c N : Nat → Nat} (hW : ∀ l, l < 4 → WL (dD (dtA 16 0 (S00 S))) l (F l) bc (c l) (N l)) (ho4 : ∀ s, s < 16 → oB (dD (dtA 16 0 (S00 S))) s ≤ 4) {Q : mO × mHp → Prop} (kk : ∀ I' A', Up 60 I I' → Up 50 A A' → kD mk (dtA 16 0 (S00 S)) I' A' → I' (cb mk) = nI 0 → I' 16 = nI 0 → I' 11 = nI 0 → (∀ l, l < 4 → LK l (dD (dtA 16 0 (S00 S))) (F l) bc (c l) I' A') → (∀ l, l < 4 → KC l A' (lnL (dD (dtA 16 0 (S00 S))) (F l) bc (c l) 0 a00)) → (∀ k, k < 32 → A' 1 k = cmL (dD (dtA 16 0 (S00 S))) (F 3) bc (c 3) 0 (fun _ => -1) k) → Q (.inl (some (.int (nI (dN (dtA 16 0 (S00 S))) - nI (dN S)))), hS n u I' A' J B mk sn L xs X)) : mq 16 0 [some (.ref 1), none, none, none] [] (hS n u I A J B mk sn L xs X) Q := by
  refine x_al1 (pc := 0) rfl rfl ?_
  refine g_1_0 (pc := 1) rfl rfl ?_
  refine g_2_4 (pc := 4) (v := nI (dN S)) rfl rfl hd3 ?_
  refine x_is1 (pc := 7) (ml' := [some (.ref 1), some (.int (nI (dN S))), none, none]) rfl rfl ?_
  refine x_al1 (pc := 8) rfl rfl ?_
  refine x_k (pc := 9) rfl rfl rfl ⟨Nat.le_of_ble_eq_true rfl, Nat.le_of_ble_eq_true rfl, Nat.le_of_ble_eq_true rfl⟩ rfl (k_8 (I := I) (A := A) hmk (fun I1 A1 f1 g1 h1 => ?_))
  show mq 16 12 [some (.ref 1), some (.int (nI (dN S))), none, none] [] (hS n u I1 A1 J B mk sn L xs X) _
  refine x_al1 (pc := 12) rfl rfl ?_
  refine g_1_0 (pc := 13) rfl rfl ?_
  refine x_k (pc := 16) rfl rfl rfl ⟨Nat.le_of_ble_eq_true rfl, Nat.le_of_ble_eq_true rfl, Nat.le_of_ble_eq_true rfl⟩ rfl (k_17 (I := I1) ?_)
  show mq 16 19 [some (.ref 1), some (.int (nI (dN S))), none, none] [] (hS n u (va_up (va_up I1 0 (nI 1)) 1 (nI 0)) A1 J B mk sn L xs X) _
  refine x_const (pc := 19) (pc' := 20) (.int (nI 0)) rfl rfl rfl rfl ?_
  refine x_is1 (pc := 20) (ml' := [some (.ref 1), some (.int (nI (dN S))), some (.int (nI 0)), none]) rfl rfl ?_
  have hD0 : kD mk (S00 S) (va_up (va_up I1 0 (nI 1)) 1 (nI 0)) A1 := ⟨⟨rfl, fun _ => rfl, (show I1 3 = nI (dN S) from (f1 3 (by decide)).trans hd3)⟩, (by rw [g1 0 (by decide)]; exact hdk), fun q => Bool.noConfusion q⟩
  have hNC : NC (S00 S) := ⟨rfl, rfl⟩
  have hok := dtA_ok 16 0 hNC hB
  refine l_16a (I := va_up (va_up I1 0 (nI 1)) 1 (nI 0)) (A := A1) (S := S00 S) (w3 := none) hmk hn hu 16 0 (Nat.zero_add _) hD0 hNC hB (fun I2 A2 f2 g2 h2 => ?_)
  refine x_const (pc := 38) (pc' := 39) (.int (nI 0)) rfl rfl rfl rfl ?_
  refine x_is1 (pc := 39) (ml' := [some (.ref 1), some (.int (nI (dN S))), some (.int (nI 0)), none]) rfl rfl ?_
  have z0 : ∀ l, l < 4 → I2 (40 + 3 * l) = nI 0 ∧ I2 (41 + 3 * l) = nI 0 ∧ I2 (42 + 3 * l) = nI 0 ∧ ∀ p, p < 8 → A2 (32 + 4 * l) p = nI 0 := fun l hl => by
    match l, hl with
    | 0, _ => exact ⟨(f2 40 (by decide)).trans (h1.2.2.2.2 0 (by decide)).1, (f2 41 (by decide)).trans (h1.2.2.2.2 0 (by decide)).2.1, (f2 42 (by decide)).trans (h1.2.2.2.2 0 (by decide)).2.2.1, fun p hp => (show A2 32 p = nI 0 by rw [g2 32 (by decide)]; exact (h1.2.2.2.2 0 (by decide)).2.2.2 p hp)⟩
    | 1, _ => exact ⟨(f2 43 (by decide)).trans (h1.2.2.2.2 1 (by decide)).1, (f2 44 (by decide)).trans (h1.2.2.2.2 1 (by decide)).2.1, (f2 45 (by decide)).trans (h1.2.2.2.2 1 (by decide)).2.2.1, fun p hp => (show A2 36 p = nI 0 by rw [g2 36 (by decide)]; exact (h1.2.2.2.2 1 (by decide)).2.2.2 p hp)⟩
    | 2, _ => exact ⟨(f2 46 (by decide)).trans (h1.2.2.2.2 2 (by decide)).1, (f2 47 (by decide)).trans (h1.2.2.2.2 2 (by decide)).2.1, (f2 48 (by decide)).trans (h1.2.2.2.2 2 (by decide)).2.2.1, fun p hp => (show A2 40 p = nI 0 by rw [g2 40 (by decide)]; exact (h1.2.2.2.2 2 (by decide)).2.2.2 p hp)⟩
    | 3, _ => exact ⟨(f2 49 (by decide)).trans (h1.2.2.2.2 3 (by decide)).1, (f2 50 (by decide)).trans (h1.2.2.2.2 3 (by decide)).2.1, (f2 51 (by decide)).trans (h1.2.2.2.2 3 (by decide)).2.2.1, fun p hp => (show A2 44 p = nI 0 by rw [g2 44 (by decide)]; exact (h1.2.2.2.2 3 (by decide)).2.2.2 p hp)⟩
  have hPL0 : PLs (dD (dtA 16 0 (S00 S))) 0 I2 A2 (fun _ _ => 0) (fun _ => 0) := fun l hl => ⟨(z0 l hl).1, fun k hk => absurd hk (Nat.not_lt_zero k), ⟨fun k hk => absurd hk (Nat.not_lt_zero k), fun t ht => absurd ht (Nat.not_lt_zero t), fun j k _ hk => absurd hk (Nat.not_lt_zero k)⟩⟩
  refine l_16b (I := I2) (A := A2) (D := (dD (dtA 16 0 (S00 S)))) hok.2 ho4 (WL_dis hW ho4) 16 0 none (Nat.zero_add _) h2.2.1 hPL0 (fun I3 A3 F3 c3 w3 f3 g3 h3 => ?_)
  have hu3 : ∀ l, l < 4 → c3 l = c l ∧ ∀ k, k < c3 l → F3 l k = F l k := fun l hl => SG_uniq (SGm_SG (h3 l hl).2.2 hok.2) (hW l hl).1
  have hc3 : ∀ l, l < 4 → I3 (40 + 3 * l) = nI (c l) := fun l hl => by rw [(h3 l hl).1, (hu3 l hl).1]
  have hs3 : ∀ l, l < 4 → ∀ k, k < c l → A3 (30 + 4 * l) k = nI (F l k) := fun l hl k hk => by rw [(h3 l hl).2.1 k (by rw [(hu3 l hl).1]; exact hk), (hu3 l hl).2 k (by rw [(hu3 l hl).1]; exact hk)]
  have hf3 : ∀ l, l < 4 → ∀ k, k < c l → F l k < 16 ∧ WS (dD (dtA 16 0 (S00 S))) (F l k) (bc (F l k)) := fun l hl k hk => ⟨((hW l hl).1.1 k hk).1, (hW l hl).2.1 k hk⟩
  have hK3 : ∀ l, l < 4 → KC l A3 a00 := fun l hl p hp => by
    match l, hl with
    | 0, _ => exact ⟨(show A3 32 p = nI 0 by rw [g3 32 (by decide)]; exact (z0 0 (by decide)).2.2.2 p hp), fun q => absurd rfl q⟩
    | 1, _ => exact ⟨(show A3 36 p = nI 0 by rw [g3 36 (by decide)]; exact (z0 1 (by decide)).2.2.2 p hp), fun q => absurd rfl q⟩
    | 2, _ => exact ⟨(show A3 40 p = nI 0 by rw [g3 40 (by decide)]; exact (z0 2 (by decide)).2.2.2 p hp), fun q => absurd rfl q⟩
    | 3, _ => exact ⟨(show A3 44 p = nI 0 by rw [g3 44 (by decide)]; exact (z0 3 (by decide)).2.2.2 p hp), fun q => absurd rfl q⟩
  refine x_const (pc := 84) (pc' := 85) (.int (nI 0)) rfl rfl rfl rfl ?_
  refine x_is1 (pc := 85) (ml' := [some (.ref 1), some (.int (nI (dN S))), some (.int (nI 0)), w3]) rfl rfl ?_
  refine x_il1 (pc := 86) rfl rfl ?_
  refine x_const (pc := 87) (pc' := 88) (.int (nI 4)) rfl rfl rfl rfl ?_
  refine x_cmpN_ge (pc := 88) (t := 107) rfl rfl (by decide) (by decide) (fun c => absurd c (by decide)) (fun _ => ?_)
  refine x_al1 (pc := 91) rfl rfl ?_
  refine x_al1 (pc := 92) rfl rfl ?_
  refine g_1_2 (pc := 93) rfl rfl ?_
  refine x_il1 (pc := 96) rfl rfl ?_
  refine aal (pc := 97) (q := 0) (a := 13) rfl rfl (by decide) rfl ?_
  refine x_k (pc := 98) rfl rfl rfl ⟨Nat.le_of_ble_eq_true rfl, Nat.le_of_ble_eq_true rfl, Nat.le_of_ble_eq_true rfl⟩ rfl (k_35_0 (I := I3) (A := A3) (D := (dD (dtA 16 0 (S00 S)))) (f := F 0) (bc := bc) (cn := c 0) (a := a00) (by rw [g3 0 (by decide)]; exact h2.2.1) (SG_le (hW 0 (by decide)).1) (hf3 0 (by decide)) (hc3 0 (by decide)) (hs3 0 (by decide)) (((f3 42 (by decide)).trans (z0 0 (by decide)).2.2.1)) (((f3 41 (by decide)).trans (z0 0 (by decide)).2.1)) (hK3 0 (by decide)) (fun I4 A4 f4 g4 y4 z4 k4 => ?_))
  show mq 16 101 [some (.ref 1), some (.int (nI (dN S))), some (.int (nI 0)), w3] [] (hS n u I4 A4 J B mk sn L xs X) _
  refine x_iincN (pc := 101) (c := 1) (ml' := [some (.ref 1), some (.int (nI (dN S))), some (.int (nI 1)), w3]) rfl rfl rfl rfl ?_
  refine x_step (pc := 104) (pc' := 86) rfl rfl rfl rfl ?_
  refine x_il1 (pc := 86) rfl rfl ?_
  refine x_const (pc := 87) (pc' := 88) (.int (nI 4)) rfl rfl rfl rfl ?_
  refine x_cmpN_ge (pc := 88) (t := 107) rfl rfl (by decide) (by decide) (fun c => absurd c (by decide)) (fun _ => ?_)
  refine x_al1 (pc := 91) rfl rfl ?_
  refine x_al1 (pc := 92) rfl rfl ?_
  refine g_1_2 (pc := 93) rfl rfl ?_
  refine x_il1 (pc := 96) rfl rfl ?_
  refine aal (pc := 97) (q := 1) (a := 18) rfl rfl (by decide) rfl ?_
  refine x_k (pc := 98) rfl rfl rfl ⟨Nat.le_of_ble_eq_true rfl, Nat.le_of_ble_eq_true rfl, Nat.le_of_ble_eq_true rfl⟩ rfl (k_35_1 (I := I4) (A := A4) (D := (dD (dtA 16 0 (S00 S)))) (f := F 1) (bc := bc) (cn := c 1) (a := a00) (by rw [g4 0 (by decide), g3 0 (by decide)]; exact h2.2.1) (SG_le (hW 1 (by decide)).1) (hf3 1 (by decide)) ((f4 43 (by decide)).trans (hc3 1 (by decide))) (fun j hj => by rw [g4 34 (by decide)]; exact hs3 1 (by decide) j hj) ((f4 45 (by decide)).trans (((f3 45 (by decide)).trans (z0 1 (by decide)).2.2.1))) ((f4 44 (by decide)).trans (((f3 44 (by decide)).trans (z0 1 (by decide)).2.1))) (KC_fr (hK3 1 (by decide)) g4 (by decide)) (fun I5 A5 f5 g5 y5 z5 k5 => ?_))
  show mq 16 101 [some (.ref 1), some (.int (nI (dN S))), some (.int (nI 1)), w3] [] (hS n u I5 A5 J B mk sn L xs X) _
  refine x_iincN (pc := 101) (c := 1) (ml' := [some (.ref 1), some (.int (nI (dN S))), some (.int (nI 2)), w3]) rfl rfl rfl rfl ?_
  refine x_step (pc := 104) (pc' := 86) rfl rfl rfl rfl ?_
  refine x_il1 (pc := 86) rfl rfl ?_
  refine x_const (pc := 87) (pc' := 88) (.int (nI 4)) rfl rfl rfl rfl ?_
  refine x_cmpN_ge (pc := 88) (t := 107) rfl rfl (by decide) (by decide) (fun c => absurd c (by decide)) (fun _ => ?_)
  refine x_al1 (pc := 91) rfl rfl ?_
  refine x_al1 (pc := 92) rfl rfl ?_
  refine g_1_2 (pc := 93) rfl rfl ?_
  refine x_il1 (pc := 96) rfl rfl ?_
  refine aal (pc := 97) (q := 2) (a := 23) rfl rfl (by decide) rfl ?_
  refine x_k (pc := 98) rfl rfl rfl ⟨Nat.le_of_ble_eq_true rfl, Nat.le_of_ble_eq_true rfl, Nat.le_of_ble_eq_true rfl⟩ rfl (k_35_2 (I := I5) (A := A5) (D := (dD (dtA 16 0 (S00 S)))) (f := F 2) (bc := bc) (cn := c 2) (a := a00) (by rw [g5 0 (by decide), g4 0 (by decide), g3 0 (by decide)]; exact h2.2.1) (SG_le (hW 2 (by decide)).1) (hf3 2 (by decide)) ((f5 46 (by decide)).trans ((f4 46 (by decide)).trans (hc3 2 (by decide)))) (fun j hj => by rw [g5 38 (by decide), g4 38 (by decide)]; exact hs3 2 (by decide) j hj) ((f5 48 (by decide)).trans ((f4 48 (by decide)).trans (((f3 48 (by decide)).trans (z0 2 (by decide)).2.2.1)))) ((f5 47 (by decide)).trans ((f4 47 (by decide)).trans (((f3 47 (by decide)).trans (z0 2 (by decide)).2.1)))) (KC_fr (KC_fr (hK3 2 (by decide)) g4 (by decide)) g5 (by decide)) (fun I6 A6 f6 g6 y6 z6 k6 => ?_))
  show mq 16 101 [some (.ref 1), some (.int (nI (dN S))), some (.int (nI 2)), w3] [] (hS n u I6 A6 J B mk sn L xs X) _
  refine x_iincN (pc := 101) (c := 1) (ml' := [some (.ref 1), some (.int (nI (dN S))), some (.int (nI 3)), w3]) rfl rfl rfl rfl ?_
  refine x_step (pc := 104) (pc' := 86) rfl rfl rfl rfl ?_
  refine x_il1 (pc := 86) rfl rfl ?_
  refine x_const (pc := 87) (pc' := 88) (.int (nI 4)) rfl rfl rfl rfl ?_
  refine x_cmpN_ge (pc := 88) (t := 107) rfl rfl (by decide) (by decide) (fun c => absurd c (by decide)) (fun _ => ?_)
  refine x_al1 (pc := 91) rfl rfl ?_
  refine x_al1 (pc := 92) rfl rfl ?_
  refine g_1_2 (pc := 93) rfl rfl ?_
  refine x_il1 (pc := 96) rfl rfl ?_
  refine aal (pc := 97) (q := 3) (a := 28) rfl rfl (by decide) rfl ?_
  refine x_k (pc := 98) rfl rfl rfl ⟨Nat.le_of_ble_eq_true rfl, Nat.le_of_ble_eq_true rfl, Nat.le_of_ble_eq_true rfl⟩ rfl (k_35_3 (I := I6) (A := A6) (D := (dD (dtA 16 0 (S00 S)))) (f := F 3) (bc := bc) (cn := c 3) (a := a00) (by rw [g6 0 (by decide), g5 0 (by decide), g4 0 (by decide), g3 0 (by decide)]; exact h2.2.1) (SG_le (hW 3 (by decide)).1) (hf3 3 (by decide)) (WL_key (hW 3 (by decide))) ((f6 49 (by decide)).trans ((f5 49 (by decide)).trans ((f4 49 (by decide)).trans (hc3 3 (by decide))))) (fun j hj => by rw [g6 42 (by decide), g5 42 (by decide), g4 42 (by decide)]; exact hs3 3 (by decide) j hj) ((f6 51 (by decide)).trans ((f5 51 (by decide)).trans ((f4 51 (by decide)).trans (((f3 51 (by decide)).trans (z0 3 (by decide)).2.2.1))))) ((f6 50 (by decide)).trans ((f5 50 (by decide)).trans ((f4 50 (by decide)).trans (((f3 50 (by decide)).trans (z0 3 (by decide)).2.1))))) (KC_fr (KC_fr (KC_fr (hK3 3 (by decide)) g4 (by decide)) g5 (by decide)) g6 (by decide)) (fun I7 A7 f7 g7 x7 y7 z7 k7 => ?_))
  show mq 16 101 [some (.ref 1), some (.int (nI (dN S))), some (.int (nI 3)), w3] [] (hS n u I7 A7 J B mk sn L xs X) _
  refine x_iincN (pc := 101) (c := 1) (ml' := [some (.ref 1), some (.int (nI (dN S))), some (.int (nI 4)), w3]) rfl rfl rfl rfl ?_
  refine x_step (pc := 104) (pc' := 86) rfl rfl rfl rfl ?_
  refine x_il1 (pc := 86) rfl rfl ?_
  refine x_const (pc := 87) (pc' := 88) (.int (nI 4)) rfl rfl rfl rfl ?_
  refine x_cmpN_ge (pc := 88) (t := 107) rfl rfl (by decide) (by decide) (fun _ => ?_) (fun c => absurd c (by decide))
  refine x_al1 (pc := 107) rfl rfl ?_
  refine g_1_0 (pc := 108) rfl rfl ?_
  refine g_2_4 (pc := 111) (v := I7 3) rfl rfl rfl ?_
  refine x_top (y := nI (dN (dtA 16 0 (S00 S)))) (((f7 3 (by decide)).trans ((f6 3 (by decide)).trans ((f5 3 (by decide)).trans ((f4 3 (by decide)).trans (f3 3 (by decide)))))).trans h2.1.2.2) ?_
  refine x_il1 (pc := 114) rfl rfl ?_
  refine x_isub (pc := 115) rfl rfl ?_
  refine x_ret (pc := 116) rfl rfl ?_
  refine kk I7 A7 (Up_fr (show Fr [0, 1, 2, 3, 4, 5, 6, 7, 8, 9, 10, 11, 12, 13, 14, 15, 16, 17, 18, 19, 20, 21, 22, 23, 24, 25, 26, 27, 28, 29, 30, 31, 32, 33, 34, 35, 36, 37, 38, 39, 40, 41, 42, 43, 44, 45, 46, 47, 48, 49, 50, 51, 52, 53, 54, 55, 56, 57, 58, 59] I I7 from (Fr_cons (Fr_cons (Fr_cons (Fr_cons (Fr_cons (Fr_cons (Fr_u (Fr_u (Fr_cons (Fr_refl _ _) f1 (by decide)) (by decide)) (by decide)) f2 (by decide)) f3 (by decide)) f4 (by decide)) f5 (by decide)) f6 (by decide)) f7 (by decide))) (by decide)) (Up_fr (show Fr [0, 1, 2, 3, 4, 5, 6, 7, 8, 9, 10, 11, 12, 13, 14, 15, 16, 17, 18, 19, 20, 21, 22, 23, 24, 25, 26, 27, 28, 29, 30, 31, 32, 33, 34, 35, 36, 37, 38, 39, 40, 41, 42, 43, 44, 45, 46, 47, 48, 49] A A7 from (Fr_cons (Fr_cons (Fr_cons (Fr_cons (Fr_cons (Fr_cons (Fr_cons (Fr_refl _ _) g1 (by decide)) g2 (by decide)) g3 (by decide)) g4 (by decide)) g5 (by decide)) g6 (by decide)) g7 (by decide))) (by decide)) ?_ ?_ ?_ ?_ (fun l hl => ?_) (fun l hl => ?_) ?_
  · exact kD_on h2 hok.1.1 (show Fr [4, 5, 6, 7, 8, 9, 10, 20, 21, 22, 40, 41, 42, 43, 44, 45, 46, 47, 48, 49, 50, 51] I2 I7 from (Fr_cons (Fr_cons (Fr_cons (Fr_cons (Fr_cons (Fr_refl _ I2) f3 (by decide)) f4 (by decide)) f5 (by decide)) f6 (by decide)) f7 (by decide))) (show Fr [1, 10, 11, 12, 13, 14, 30, 31, 32, 33, 34, 35, 36, 37, 38, 39, 40, 41, 42, 43, 44, 45] A2 A7 from (Fr_cons (Fr_cons (Fr_cons (Fr_cons (Fr_cons (Fr_refl _ A2) g3 (by decide)) g4 (by decide)) g5 (by decide)) g6 (by decide)) g7 (by decide))) (by decide) (by decide)
  · rcases hmk with ⟨q1, _⟩ | ⟨q1, _⟩
    · subst q1
      exact ((f7 28 (by decide)).trans ((f6 28 (by decide)).trans ((f5 28 (by decide)).trans ((f4 28 (by decide)).trans ((f3 28 (by decide)).trans (f2 28 (by decide))))))).trans h1.1
    · subst q1
      exact ((f7 31 (by decide)).trans ((f6 31 (by decide)).trans ((f5 31 (by decide)).trans ((f4 31 (by decide)).trans ((f3 31 (by decide)).trans (f2 31 (by decide))))))).trans h1.1
  · exact ((f7 16 (by decide)).trans ((f6 16 (by decide)).trans ((f5 16 (by decide)).trans ((f4 16 (by decide)).trans ((f3 16 (by decide)).trans (f2 16 (by decide))))))).trans h1.2.1
  · exact ((f7 11 (by decide)).trans ((f6 11 (by decide)).trans ((f5 11 (by decide)).trans ((f4 11 (by decide)).trans ((f3 11 (by decide)).trans (f2 11 (by decide))))))).trans h1.2.2.1
  · match l, hl with
    | 0, _ => exact (LK_fr (LK_fr (LK_fr (show LK 0 (dD (dtA 16 0 (S00 S))) (F 0) bc (c 0) I4 A4 from ⟨(f4 40 (by decide)).trans (hc3 0 (by decide)), fun j hj => (show A4 30 j = nI (F 0 j) by rw [g4 30 (by decide)]; exact hs3 0 (by decide) j hj), z4, y4⟩) f5 g5 (by decide) (by decide)) f6 g6 (by decide) (by decide)) f7 g7 (by decide) (by decide))
    | 1, _ => exact (LK_fr (LK_fr (show LK 1 (dD (dtA 16 0 (S00 S))) (F 1) bc (c 1) I5 A5 from ⟨(f5 43 (by decide)).trans ((f4 43 (by decide)).trans (hc3 1 (by decide))), fun j hj => (show A5 34 j = nI (F 1 j) by rw [g5 34 (by decide), g4 34 (by decide)]; exact hs3 1 (by decide) j hj), z5, y5⟩) f6 g6 (by decide) (by decide)) f7 g7 (by decide) (by decide))
    | 2, _ => exact (LK_fr (show LK 2 (dD (dtA 16 0 (S00 S))) (F 2) bc (c 2) I6 A6 from ⟨(f6 46 (by decide)).trans ((f5 46 (by decide)).trans ((f4 46 (by decide)).trans (hc3 2 (by decide)))), fun j hj => (show A6 38 j = nI (F 2 j) by rw [g6 38 (by decide), g5 38 (by decide), g4 38 (by decide)]; exact hs3 2 (by decide) j hj), z6, y6⟩) f7 g7 (by decide) (by decide))
    | 3, _ => exact (show LK 3 (dD (dtA 16 0 (S00 S))) (F 3) bc (c 3) I7 A7 from ⟨(f7 49 (by decide)).trans ((f6 49 (by decide)).trans ((f5 49 (by decide)).trans ((f4 49 (by decide)).trans (hc3 3 (by decide))))), fun j hj => (show A7 42 j = nI (F 3 j) by rw [g7 42 (by decide), g6 42 (by decide), g5 42 (by decide), g4 42 (by decide)]; exact hs3 3 (by decide) j hj), z7, y7⟩)
  · match l, hl with
    | 0, _ => exact (KC_fr (KC_fr (KC_fr k4 g5 (by decide)) g6 (by decide)) g7 (by decide))
    | 1, _ => exact (KC_fr (KC_fr k5 g6 (by decide)) g7 (by decide))
    | 2, _ => exact (KC_fr k6 g7 (by decide))
    | 3, _ => exact k7
  · intro k hk
    rw [x7]
    refine cmL_pt _ _ (fun y hy => ?_) k hk
    rw [g6 1 (by decide), g5 1 (by decide), g4 1 (by decide), g3 1 (by decide), g2 1 (by decide)]
    exact h1.2.2.2.1 y hy
end S77
