/-! recover: the class. -/
/-- f names the n slots below m of the log l, by their bases -/
def SGm (D : Nat → Nat) (l m : Nat) (f : Nat → Nat) (n : Nat) : Prop := (∀ k, k < n → f k < m ∧ oB D (f k) = l + 1) ∧ (∀ s, s < m → oB D s = l + 1 → ∃ k, k < n ∧ f k = s) ∧ (∀ j k, j < k → k < n → bB D (f j) < bB D (f k))
theorem SGm_n {D : Nat → Nat} {l m n : Nat} {f : Nat → Nat} (h : SGm D l m f n) : n ≤ m := by
  have h1 : cS (ow D l) m = n := cS_inj (fun k hk => (h.1 k hk).1) (fun j k hj hk e => by
    have h2 := h.2.2 j k hj hk
    rw [e] at h2
    omega) (fun s hs => by
    unfold ow
    rw [decide_eq_true_eq]
    exact ⟨fun q => h.2.1 s hs q, fun ⟨k, hk, e⟩ => e ▸ (h.1 k hk).2⟩)
  rw [← h1]
  exact cS_leN _ _
theorem rkI_spec {D : Nat → Nat} {f : Nat → Nat} {b : Nat} : ∀ {n : Nat}, (∀ j k, j < k → k < n → bB D (f j) < bB D (f k)) → (∀ k, k < rkI D f b n → bB D (f k) < b) ∧ (∀ k, rkI D f b n ≤ k → k < n → ¬ bB D (f k) < b)
  | 0, _ => ⟨fun k hk => absurd hk (Nat.not_lt_zero k), fun k _ hk => absurd hk (Nat.not_lt_zero k)⟩
  | n + 1, h => by
    have ih := rkI_spec (D := D) (f := f) (b := b) (n := n) (fun j k hj hk => h j k hj (by omega))
    by_cases hb : bB D (f n) < b
    · have e : rkI D f b (n + 1) = n + 1 := if_pos hb
      rw [e]
      refine ⟨fun k hk => ?_, fun k h1 h2 => by omega⟩
      by_cases hkn : k = n
      · rw [hkn]
        exact hb
      · have := h k n (by omega) (by omega)
        omega
    · have e : rkI D f b (n + 1) = rkI D f b n := if_neg hb
      rw [e]
      refine ⟨ih.1, fun k h1 h2 => ?_⟩
      by_cases hkn : k = n
      · rw [hkn]
        exact hb
      · exact ih.2 k h1 (by omega)
theorem insF_lt {f : Nat → Nat} {j s k : Nat} (h : k < j) : insF f j s k = f k := if_pos h
theorem insF_at {f : Nat → Nat} {j s : Nat} : insF f j s j = s := (if_neg (Nat.lt_irrefl j)).trans (if_pos rfl)
theorem insF_gt {f : Nat → Nat} {j s k : Nat} (h : j < k) : insF f j s k = f (k - 1) := (if_neg (by omega)).trans (if_neg (by omega))
theorem SGm_add {D : Nat → Nat} {l m n : Nat} {f : Nat → Nat} (h : SGm D l m f n) (hm : oB D m = l + 1) (hd : ∀ t, t < m → oB D t = l + 1 → ¬ bB D t = bB D m) : SGm D l (m + 1) (insF f (rkI D f (bB D m) n) m) (n + 1) := by
  have hr := rkI_spec (D := D) (f := f) (b := bB D m) h.2.2
  have hle := rkI_le D f (bB D m) n
  obtain ⟨j, hj⟩ : ∃ j, j = rkI D f (bB D m) n := ⟨_, rfl⟩
  rw [← hj] at hr hle ⊢
  have hgt : ∀ k, j ≤ k → k < n → bB D m < bB D (f k) := fun k h1 h2 => by
    have h3 := hr.2 k h1 h2
    have h4 := hd (f k) (h.1 k h2).1 (h.1 k h2).2
    omega
  refine ⟨fun k hk => ?_, fun s hs ho => ?_, fun a b hab hb => ?_⟩
  · rcases Nat.lt_trichotomy k j with q | q | q
    · rw [insF_lt q]
      have := h.1 k (by omega)
      exact ⟨by omega, this.2⟩
    · rw [q, insF_at]
      exact ⟨by omega, hm⟩
    · rw [insF_gt q]
      have := h.1 (k - 1) (by omega)
      exact ⟨by omega, this.2⟩
  · by_cases hsm : s = m
    · exact ⟨j, by omega, by rw [insF_at]; exact hsm.symm⟩
    · obtain ⟨k, hk, e⟩ := h.2.1 s (by omega) ho
      by_cases hkj : k < j
      · exact ⟨k, by omega, by rw [insF_lt hkj]; exact e⟩
      · exact ⟨k + 1, by omega, by rw [insF_gt (by omega), Nat.add_sub_cancel]; exact e⟩
  · rcases Nat.lt_trichotomy a j with q | q | q
    · rw [insF_lt q]
      rcases Nat.lt_trichotomy b j with q' | q' | q'
      · rw [insF_lt q']
        exact h.2.2 a b hab (by omega)
      · rw [q', insF_at]
        exact hr.1 a q
      · rw [insF_gt q']
        have h1 := hr.1 a q
        have h2 := hgt (b - 1) (by omega) (by omega)
        omega
    · rw [q, insF_at, insF_gt (by omega)]
      exact hgt (b - 1) (by omega) (by omega)
    · rw [insF_gt q, insF_gt (by omega)]
      exact h.2.2 (a - 1) (b - 1) (by omega) (by omega)
theorem SGm_skip {D : Nat → Nat} {l m n : Nat} {f : Nat → Nat} (h : SGm D l m f n) (hm : ¬ oB D m = l + 1) : SGm D l (m + 1) f n := by
  refine ⟨fun k hk => ⟨by have := (h.1 k hk).1; omega, (h.1 k hk).2⟩, fun s hs ho => ?_, h.2.2⟩
  by_cases hsm : s = m
  · rw [hsm] at ho
    exact absurd ho hm
  · exact h.2.1 s (by omega) ho
theorem SGm_SG {D : Nat → Nat} {l n : Nat} {f : Nat → Nat} (h : SGm D l 16 f n) (hB : HB D) : SG D l f n := ⟨fun k hk => ⟨(h.1 k hk).1, (h.1 k hk).2, hB _ (h.1 k hk).1 (by rw [(h.1 k hk).2]; omega)⟩, h.2.1, h.2.2⟩
theorem SG_uniq {D : Nat → Nat} {l n n' : Nat} {f f' : Nat → Nat} (h : SG D l f n) (h' : SG D l f' n') : n = n' ∧ ∀ k, k < n → f k = f' k := by
  have e : n = n' := by rw [← SG_n h, ← SG_n h']
  refine ⟨e, fun k hk => ?_⟩
  obtain ⟨j, hj, ej⟩ := h'.2.1 (f k) (h.1 k hk).1 (h.1 k hk).2.1
  have h1 := SG_rank h hk
  have h2 := SG_rank h' hj
  rw [ej, h1] at h2
  rw [← ej, h2]
theorem dt1_ok {s : Nat} : ∀ (z o : Nat) {S : DS}, NC S → HB (dD S) → NC (dt1 s z o S) ∧ HB (dD (dt1 s z o S))
  | 0, _, _, h, h1 => ⟨h, h1⟩
  | z + 1, o, S, h, h1 => by
    show NC (dt1 s z (o + 1) (if sc (dD S) s o = true then wr1 S (owW o 0) else S)) ∧ HB (dD (dt1 s z (o + 1) (if sc (dD S) s o = true then wr1 S (owW o 0) else S)))
    by_cases hc : sc (dD S) s o = true
    · rw [if_pos hc]
      exact dt1_ok z (o + 1) (NC_wr _ h).1 (by rw [(NC_wr _ h).2.1]; exact HB_ow h1)
    · rw [if_neg hc]
      exact dt1_ok z (o + 1) h h1
theorem dtA_ok : ∀ (z s : Nat) {S : DS}, NC S → HB (dD S) → NC (dtA z s S) ∧ HB (dD (dtA z s S))
  | 0, _, _, h, h1 => ⟨h, h1⟩
  | z + 1, s, S, h, h1 => dtA_ok z (s + 1) (dt1_ok 16 0 h h1).1 (dt1_ok 16 0 h h1).2
/-- the logs' slots, as far as they are placed -/
def PLs (D : Nat → Nat) (m : Nat) (I : Nat → Int32) (A : Nat → Nat → Int32) (F : Nat → Nat → Nat) (c : Nat → Nat) : Prop := ∀ l, l < 4 → I (40 + 3 * l) = nI (c l) ∧ (∀ k, k < c l → A (30 + 4 * l) k = nI (F l k)) ∧ SGm D l m (F l) (c l)
def a00 : Nat → KT := fun _ => (0, 0, 0)
section S76
variable {n u : Nat} {I : Nat → Int32} {A : Nat → Nat → Int32} {J : Int64} {B : Nat → Int64} {mk sn L : Nat} {xs : Nat → Int32} {X : Nat → mC} {D : Nat → Nat} 
set_option maxRecDepth 100000 in
set_option maxHeartbeats 4000000 in
theorem l_16a {v : Int32} {w3 : Option Value} (hmk : mks mk sn) (hn : 77 ≤ n ∧ n < 10000) (hu : u + 6 < 1000000) {Q : mO × mHp → Prop} : ∀ (z s : Nat) {S : DS} {I : Nat → Int32} {A : Nat → Nat → Int32}, (s + z = 16) → (kD mk S I A) → (NC S) → (HB (dD S)) → (∀ I' A', Fr [2, 3, 15] I I' → Fr [0, 4] A A' → kD mk (dtA z s S) I' A' → mq 16 38 [some (.ref 1), some (.int v), some (.int (nI 16)), w3] [] (hS n u I' A' J B mk sn L xs X) Q) → mq 16 21 [some (.ref 1), some (.int v), some (.int (nI s)), w3] [] (hS n u I A J B mk sn L xs X) Q := by
  intro z
  induction z with
  | zero =>
    intro s S I A hz hD hNC hB kk
    refine x_il1 (pc := 21) rfl rfl ?_
    refine x_const (pc := 22) (pc' := 24) (.int (nI 16)) rfl rfl rfl rfl ?_
    refine x_cmpN_ge (pc := 24) (t := 38) rfl rfl (by omega) (by omega) (fun c24 => ?_) (fun c24 => ?_)
    · rw [show s = 16 by omega]
      rw [show s = 16 by omega] at kk
      exact kk I A (Fr_refl _ _) (Fr_refl _ _) hD
    · omega
  | succ z ih =>
    intro s S I A hz hD hNC hB kk
    refine x_il1 (pc := 21) rfl rfl ?_
    refine x_const (pc := 22) (pc' := 24) (.int (nI 16)) rfl rfl rfl rfl ?_
    refine x_cmpN_ge (pc := 24) (t := 38) rfl rfl (by omega) (by omega) (fun c24 => ?_) (fun c24 => ?_)
    · omega
    · refine x_al1 (pc := 27) rfl rfl ?_
      refine x_il1 (pc := 28) rfl rfl ?_
      refine x_k (pc := 29) rfl rfl rfl ⟨Nat.le_of_ble_eq_true rfl, Nat.le_of_ble_eq_true rfl, Nat.le_of_ble_eq_true rfl⟩ rfl (k_18 (I := I) (A := A) (S := S) (s := s) (by omega) hmk hn hu hD hNC hB (fun I1 A1 f1 g1 h1 => ?_))
      show mq 16 32 [some (.ref 1), some (.int v), some (.int (nI s)), w3] [] (hS n u I1 A1 J B mk sn L xs X) _
      refine x_iincN (pc := 32) (c := 1) (ml' := [some (.ref 1), some (.int v), some (.int (nI (s + 1))), w3]) rfl rfl rfl rfl ?_
      refine x_step (pc := 35) (pc' := 21) rfl rfl rfl rfl ?_
      exact ih (s + 1) (S := dt1 s 16 0 S) (I := I1) (A := A1) (by omega) h1 (dt1_ok 16 0 hNC hB).1 (dt1_ok 16 0 hNC hB).2 (fun I2 A2 f2 g2 h2 => kk I2 A2 (Fr_cons f1 f2 (by decide)) (Fr_cons g1 g2 (by decide)) h2)
set_option maxRecDepth 100000 in
set_option maxHeartbeats 4000000 in
theorem l_16b {v : Int32} (hB : HB D) (ho4 : ∀ s, s < 16 → oB D s ≤ 4) (hdis : ∀ s t, s < 16 → t < 16 → ¬ s = t → oB D s = oB D t → ¬ oB D s = 0 → ¬ bB D s = bB D t) {Q : mO × mHp → Prop} : ∀ (z m : Nat) (w3 : Option Value) {F : Nat → Nat → Nat} {c : Nat → Nat} {I : Nat → Int32} {A : Nat → Nat → Int32}, m + z = 16 → DK (A 0) D → PLs D m I A F c → (∀ I' A' F' c' w', Fr [40, 43, 46, 49] I I' → Fr [30, 34, 38, 42] A A' → PLs D 16 I' A' F' c' → mq 16 84 [some (.ref 1), some (.int v), some (.int (nI 16)), w'] [] (hS n u I' A' J B mk sn L xs X) Q) → mq 16 40 [some (.ref 1), some (.int v), some (.int (nI m)), w3] [] (hS n u I A J B mk sn L xs X) Q := by
  intro z
  induction z with
  | zero =>
    intro m w3 F c I A hz h hPL kk
    refine x_il1 (pc := 40) rfl rfl ?_
    refine x_const (pc := 41) (pc' := 43) (.int (nI 16)) rfl rfl rfl rfl ?_
    refine x_cmpN_ge (pc := 43) (t := 84) rfl rfl (by omega) (by omega) (fun c43 => ?_) (fun c43 => ?_)
    · have hm : m = 16 := by omega
      subst hm
      exact kk I A F c w3 (Fr_refl _ _) (Fr_refl _ _) hPL
    · omega
  | succ z ih =>
    intro m w3 F c I A hz h hPL kk
    have hm4 := ho4 m (by omega)
    have ho : oB D m = 0 ∨ oB D m = 1 ∨ oB D m = 2 ∨ oB D m = 3 ∨ oB D m = 4 := by omega
    rcases ho with e | e | e | e | e
    · refine x_il1 (pc := 40) rfl rfl ?_
      refine x_const (pc := 41) (pc' := 43) (.int (nI 16)) rfl rfl rfl rfl ?_
      refine x_cmpN_ge (pc := 43) (t := 84) rfl rfl (by omega) (by omega) (fun c43 => ?_) (fun c43 => ?_)
      · omega
      · refine x_al1 (pc := 46) rfl rfl ?_
        refine g_1_0 (pc := 47) rfl rfl ?_
        refine x_il1 (pc := 50) rfl rfl ?_
        refine x_k (pc := 51) rfl rfl rfl ⟨Nat.le_of_ble_eq_true rfl, Nat.le_of_ble_eq_true rfl, Nat.le_of_ble_eq_true rfl⟩ rfl (mq_k (c_20 h (by omega)) ?_)
        show mq 16 54 [some (.ref 1), some (.int v), some (.int (nI m)), w3] [.int (nI (oB D m))] (hS n u I A J B mk sn L xs X) _
        refine x_top (y := nI 0) (congrArg nI e) ?_
        refine x_is1 (pc := 54) (ml' := [some (.ref 1), some (.int v), some (.int (nI m)), some (.int (nI 0))]) rfl rfl ?_
        refine x_il1 (pc := 55) rfl rfl ?_
        refine x_const (pc := 56) (pc' := 57) (.int (nI 1)) rfl rfl rfl rfl ?_
        refine x_cmpN_lt (pc := 57) (t := 78) rfl rfl (by decide) (by decide) (fun _ => ?_) (fun c => absurd c (by decide))
        refine x_iincN (pc := 78) (c := 1) (ml' := [some (.ref 1), some (.int v), some (.int (nI (m + 1))), some (.int (nI 0))]) rfl rfl rfl rfl ?_
        refine x_step (pc := 81) (pc' := 40) rfl rfl rfl rfl ?_
        exact ih (m + 1) _ (F := F) (c := c) (I := I) (A := A) (by omega) h (fun l hl => ⟨(hPL l hl).1, (hPL l hl).2.1, SGm_skip (hPL l hl).2.2 (by omega)⟩) kk
    · refine x_il1 (pc := 40) rfl rfl ?_
      refine x_const (pc := 41) (pc' := 43) (.int (nI 16)) rfl rfl rfl rfl ?_
      refine x_cmpN_ge (pc := 43) (t := 84) rfl rfl (by omega) (by omega) (fun c43 => ?_) (fun c43 => ?_)
      · omega
      · refine x_al1 (pc := 46) rfl rfl ?_
        refine g_1_0 (pc := 47) rfl rfl ?_
        refine x_il1 (pc := 50) rfl rfl ?_
        refine x_k (pc := 51) rfl rfl rfl ⟨Nat.le_of_ble_eq_true rfl, Nat.le_of_ble_eq_true rfl, Nat.le_of_ble_eq_true rfl⟩ rfl (mq_k (c_20 h (by omega)) ?_)
        show mq 16 54 [some (.ref 1), some (.int v), some (.int (nI m)), w3] [.int (nI (oB D m))] (hS n u I A J B mk sn L xs X) _
        refine x_top (y := nI 1) (congrArg nI e) ?_
        refine x_is1 (pc := 54) (ml' := [some (.ref 1), some (.int v), some (.int (nI m)), some (.int (nI 1))]) rfl rfl ?_
        refine x_il1 (pc := 55) rfl rfl ?_
        refine x_const (pc := 56) (pc' := 57) (.int (nI 1)) rfl rfl rfl rfl ?_
        refine x_cmpN_lt (pc := 57) (t := 78) rfl rfl (by decide) (by decide) (fun c => absurd c (by decide)) (fun _ => ?_)
        refine x_il1 (pc := 60) rfl rfl ?_
        refine x_const (pc := 61) (pc' := 62) (.int (nI 4)) rfl rfl rfl rfl ?_
        refine x_cmpN_gt (pc := 62) (t := 78) rfl rfl (by decide) (by decide) (fun c => absurd c (by decide)) (fun _ => ?_)
        refine x_al1 (pc := 65) rfl rfl ?_
        refine x_al1 (pc := 66) rfl rfl ?_
        refine g_1_2 (pc := 67) rfl rfl ?_
        refine x_il1 (pc := 70) rfl rfl ?_
        refine x_const (pc := 71) (pc' := 72) (.int (nI 1)) rfl rfl rfl rfl ?_
        refine x_isubV (pc := 72) (v := nI 0) rfl (by decide) ?_
        refine aal (pc := 73) (q := 0) (a := 13) rfl rfl (by decide) rfl ?_
        refine x_il1 (pc := 74) rfl rfl ?_
        refine x_k (pc := 75) rfl rfl rfl ⟨Nat.le_of_ble_eq_true rfl, Nat.le_of_ble_eq_true rfl, Nat.le_of_ble_eq_true rfl⟩ rfl (k_33_0 (I := I) (A := A) (D := D) (f := F 0) (cn := c 0) h (by have := SGm_n (hPL 0 (by decide)).2.2; omega) (by omega) (fun k hk => ⟨by have := ((hPL 0 (by decide)).2.2.1 k hk).1; omega, hB _ (by have := ((hPL 0 (by decide)).2.2.1 k hk).1; omega) (by rw [((hPL 0 (by decide)).2.2.1 k hk).2]; decide)⟩) (hB m (by omega) (by omega)) (hPL 0 (by decide)).1 (hPL 0 (by decide)).2.1 (by have := SGm_n (hPL 0 (by decide)).2.2; omega) (fun A1 g1 h1 => ?_))
        show mq 16 78 [some (.ref 1), some (.int v), some (.int (nI m)), some (.int (nI 1))] [] (hS n u (va_up I 40 (nI (c 0 + 1))) A1 J B mk sn L xs X) _
        refine x_iincN (pc := 78) (c := 1) (ml' := [some (.ref 1), some (.int v), some (.int (nI (m + 1))), some (.int (nI 1))]) rfl rfl rfl rfl ?_
        refine x_step (pc := 81) (pc' := 40) rfl rfl rfl rfl ?_
        refine ih (m + 1) _ (F := fun l => if l = 0 then insF (F 0) (rkI D (F 0) (bB D m) (c 0)) m else F l) (c := fun l => if l = 0 then c 0 + 1 else c l) (I := va_up I 40 (nI (c 0 + 1))) (A := A1) (by omega) (by rw [g1 0 (by decide)]; exact h) (fun l hl => ?_) (fun I2 A2 F2 c2 w2 f2 g2 h2 => kk I2 A2 F2 c2 w2 (Fr_cons (Fr_u (Fr_refl _ _) (by decide)) f2 (by decide)) (Fr_cons (Fr_cons (Fr_refl _ A) g1 (by decide)) g2 (by decide)) h2)
        match l, hl with
        | 0, _ => exact ⟨rfl, h1, SGm_add (hPL 0 (by decide)).2.2 e (fun t ht hto => hdis t m (by omega) (by omega) (by omega) (hto.trans e.symm) (by omega))⟩
        | 1, _ => exact ⟨(hPL 1 (by decide)).1, fun k hk => (show A1 34 k = nI (F 1 k) by rw [g1 34 (by decide)]; exact (hPL 1 (by decide)).2.1 k hk), SGm_skip (hPL 1 (by decide)).2.2 (by rw [e]; decide)⟩
        | 2, _ => exact ⟨(hPL 2 (by decide)).1, fun k hk => (show A1 38 k = nI (F 2 k) by rw [g1 38 (by decide)]; exact (hPL 2 (by decide)).2.1 k hk), SGm_skip (hPL 2 (by decide)).2.2 (by rw [e]; decide)⟩
        | 3, _ => exact ⟨(hPL 3 (by decide)).1, fun k hk => (show A1 42 k = nI (F 3 k) by rw [g1 42 (by decide)]; exact (hPL 3 (by decide)).2.1 k hk), SGm_skip (hPL 3 (by decide)).2.2 (by rw [e]; decide)⟩
    · refine x_il1 (pc := 40) rfl rfl ?_
      refine x_const (pc := 41) (pc' := 43) (.int (nI 16)) rfl rfl rfl rfl ?_
      refine x_cmpN_ge (pc := 43) (t := 84) rfl rfl (by omega) (by omega) (fun c43 => ?_) (fun c43 => ?_)
      · omega
      · refine x_al1 (pc := 46) rfl rfl ?_
        refine g_1_0 (pc := 47) rfl rfl ?_
        refine x_il1 (pc := 50) rfl rfl ?_
        refine x_k (pc := 51) rfl rfl rfl ⟨Nat.le_of_ble_eq_true rfl, Nat.le_of_ble_eq_true rfl, Nat.le_of_ble_eq_true rfl⟩ rfl (mq_k (c_20 h (by omega)) ?_)
        show mq 16 54 [some (.ref 1), some (.int v), some (.int (nI m)), w3] [.int (nI (oB D m))] (hS n u I A J B mk sn L xs X) _
        refine x_top (y := nI 2) (congrArg nI e) ?_
        refine x_is1 (pc := 54) (ml' := [some (.ref 1), some (.int v), some (.int (nI m)), some (.int (nI 2))]) rfl rfl ?_
        refine x_il1 (pc := 55) rfl rfl ?_
        refine x_const (pc := 56) (pc' := 57) (.int (nI 1)) rfl rfl rfl rfl ?_
        refine x_cmpN_lt (pc := 57) (t := 78) rfl rfl (by decide) (by decide) (fun c => absurd c (by decide)) (fun _ => ?_)
        refine x_il1 (pc := 60) rfl rfl ?_
        refine x_const (pc := 61) (pc' := 62) (.int (nI 4)) rfl rfl rfl rfl ?_
        refine x_cmpN_gt (pc := 62) (t := 78) rfl rfl (by decide) (by decide) (fun c => absurd c (by decide)) (fun _ => ?_)
        refine x_al1 (pc := 65) rfl rfl ?_
        refine x_al1 (pc := 66) rfl rfl ?_
        refine g_1_2 (pc := 67) rfl rfl ?_
        refine x_il1 (pc := 70) rfl rfl ?_
        refine x_const (pc := 71) (pc' := 72) (.int (nI 1)) rfl rfl rfl rfl ?_
        refine x_isubV (pc := 72) (v := nI 1) rfl (by decide) ?_
        refine aal (pc := 73) (q := 1) (a := 18) rfl rfl (by decide) rfl ?_
        refine x_il1 (pc := 74) rfl rfl ?_
        refine x_k (pc := 75) rfl rfl rfl ⟨Nat.le_of_ble_eq_true rfl, Nat.le_of_ble_eq_true rfl, Nat.le_of_ble_eq_true rfl⟩ rfl (k_33_1 (I := I) (A := A) (D := D) (f := F 1) (cn := c 1) h (by have := SGm_n (hPL 1 (by decide)).2.2; omega) (by omega) (fun k hk => ⟨by have := ((hPL 1 (by decide)).2.2.1 k hk).1; omega, hB _ (by have := ((hPL 1 (by decide)).2.2.1 k hk).1; omega) (by rw [((hPL 1 (by decide)).2.2.1 k hk).2]; decide)⟩) (hB m (by omega) (by omega)) (hPL 1 (by decide)).1 (hPL 1 (by decide)).2.1 (by have := SGm_n (hPL 1 (by decide)).2.2; omega) (fun A1 g1 h1 => ?_))
        show mq 16 78 [some (.ref 1), some (.int v), some (.int (nI m)), some (.int (nI 2))] [] (hS n u (va_up I 43 (nI (c 1 + 1))) A1 J B mk sn L xs X) _
        refine x_iincN (pc := 78) (c := 1) (ml' := [some (.ref 1), some (.int v), some (.int (nI (m + 1))), some (.int (nI 2))]) rfl rfl rfl rfl ?_
        refine x_step (pc := 81) (pc' := 40) rfl rfl rfl rfl ?_
        refine ih (m + 1) _ (F := fun l => if l = 1 then insF (F 1) (rkI D (F 1) (bB D m) (c 1)) m else F l) (c := fun l => if l = 1 then c 1 + 1 else c l) (I := va_up I 43 (nI (c 1 + 1))) (A := A1) (by omega) (by rw [g1 0 (by decide)]; exact h) (fun l hl => ?_) (fun I2 A2 F2 c2 w2 f2 g2 h2 => kk I2 A2 F2 c2 w2 (Fr_cons (Fr_u (Fr_refl _ _) (by decide)) f2 (by decide)) (Fr_cons (Fr_cons (Fr_refl _ A) g1 (by decide)) g2 (by decide)) h2)
        match l, hl with
        | 0, _ => exact ⟨(hPL 0 (by decide)).1, fun k hk => (show A1 30 k = nI (F 0 k) by rw [g1 30 (by decide)]; exact (hPL 0 (by decide)).2.1 k hk), SGm_skip (hPL 0 (by decide)).2.2 (by rw [e]; decide)⟩
        | 1, _ => exact ⟨rfl, h1, SGm_add (hPL 1 (by decide)).2.2 e (fun t ht hto => hdis t m (by omega) (by omega) (by omega) (hto.trans e.symm) (by omega))⟩
        | 2, _ => exact ⟨(hPL 2 (by decide)).1, fun k hk => (show A1 38 k = nI (F 2 k) by rw [g1 38 (by decide)]; exact (hPL 2 (by decide)).2.1 k hk), SGm_skip (hPL 2 (by decide)).2.2 (by rw [e]; decide)⟩
        | 3, _ => exact ⟨(hPL 3 (by decide)).1, fun k hk => (show A1 42 k = nI (F 3 k) by rw [g1 42 (by decide)]; exact (hPL 3 (by decide)).2.1 k hk), SGm_skip (hPL 3 (by decide)).2.2 (by rw [e]; decide)⟩
    · refine x_il1 (pc := 40) rfl rfl ?_
      refine x_const (pc := 41) (pc' := 43) (.int (nI 16)) rfl rfl rfl rfl ?_
      refine x_cmpN_ge (pc := 43) (t := 84) rfl rfl (by omega) (by omega) (fun c43 => ?_) (fun c43 => ?_)
      · omega
      · refine x_al1 (pc := 46) rfl rfl ?_
        refine g_1_0 (pc := 47) rfl rfl ?_
        refine x_il1 (pc := 50) rfl rfl ?_
        refine x_k (pc := 51) rfl rfl rfl ⟨Nat.le_of_ble_eq_true rfl, Nat.le_of_ble_eq_true rfl, Nat.le_of_ble_eq_true rfl⟩ rfl (mq_k (c_20 h (by omega)) ?_)
        show mq 16 54 [some (.ref 1), some (.int v), some (.int (nI m)), w3] [.int (nI (oB D m))] (hS n u I A J B mk sn L xs X) _
        refine x_top (y := nI 3) (congrArg nI e) ?_
        refine x_is1 (pc := 54) (ml' := [some (.ref 1), some (.int v), some (.int (nI m)), some (.int (nI 3))]) rfl rfl ?_
        refine x_il1 (pc := 55) rfl rfl ?_
        refine x_const (pc := 56) (pc' := 57) (.int (nI 1)) rfl rfl rfl rfl ?_
        refine x_cmpN_lt (pc := 57) (t := 78) rfl rfl (by decide) (by decide) (fun c => absurd c (by decide)) (fun _ => ?_)
        refine x_il1 (pc := 60) rfl rfl ?_
        refine x_const (pc := 61) (pc' := 62) (.int (nI 4)) rfl rfl rfl rfl ?_
        refine x_cmpN_gt (pc := 62) (t := 78) rfl rfl (by decide) (by decide) (fun c => absurd c (by decide)) (fun _ => ?_)
        refine x_al1 (pc := 65) rfl rfl ?_
        refine x_al1 (pc := 66) rfl rfl ?_
        refine g_1_2 (pc := 67) rfl rfl ?_
        refine x_il1 (pc := 70) rfl rfl ?_
        refine x_const (pc := 71) (pc' := 72) (.int (nI 1)) rfl rfl rfl rfl ?_
        refine x_isubV (pc := 72) (v := nI 2) rfl (by decide) ?_
        refine aal (pc := 73) (q := 2) (a := 23) rfl rfl (by decide) rfl ?_
        refine x_il1 (pc := 74) rfl rfl ?_
        refine x_k (pc := 75) rfl rfl rfl ⟨Nat.le_of_ble_eq_true rfl, Nat.le_of_ble_eq_true rfl, Nat.le_of_ble_eq_true rfl⟩ rfl (k_33_2 (I := I) (A := A) (D := D) (f := F 2) (cn := c 2) h (by have := SGm_n (hPL 2 (by decide)).2.2; omega) (by omega) (fun k hk => ⟨by have := ((hPL 2 (by decide)).2.2.1 k hk).1; omega, hB _ (by have := ((hPL 2 (by decide)).2.2.1 k hk).1; omega) (by rw [((hPL 2 (by decide)).2.2.1 k hk).2]; decide)⟩) (hB m (by omega) (by omega)) (hPL 2 (by decide)).1 (hPL 2 (by decide)).2.1 (by have := SGm_n (hPL 2 (by decide)).2.2; omega) (fun A1 g1 h1 => ?_))
        show mq 16 78 [some (.ref 1), some (.int v), some (.int (nI m)), some (.int (nI 3))] [] (hS n u (va_up I 46 (nI (c 2 + 1))) A1 J B mk sn L xs X) _
        refine x_iincN (pc := 78) (c := 1) (ml' := [some (.ref 1), some (.int v), some (.int (nI (m + 1))), some (.int (nI 3))]) rfl rfl rfl rfl ?_
        refine x_step (pc := 81) (pc' := 40) rfl rfl rfl rfl ?_
        refine ih (m + 1) _ (F := fun l => if l = 2 then insF (F 2) (rkI D (F 2) (bB D m) (c 2)) m else F l) (c := fun l => if l = 2 then c 2 + 1 else c l) (I := va_up I 46 (nI (c 2 + 1))) (A := A1) (by omega) (by rw [g1 0 (by decide)]; exact h) (fun l hl => ?_) (fun I2 A2 F2 c2 w2 f2 g2 h2 => kk I2 A2 F2 c2 w2 (Fr_cons (Fr_u (Fr_refl _ _) (by decide)) f2 (by decide)) (Fr_cons (Fr_cons (Fr_refl _ A) g1 (by decide)) g2 (by decide)) h2)
        match l, hl with
        | 0, _ => exact ⟨(hPL 0 (by decide)).1, fun k hk => (show A1 30 k = nI (F 0 k) by rw [g1 30 (by decide)]; exact (hPL 0 (by decide)).2.1 k hk), SGm_skip (hPL 0 (by decide)).2.2 (by rw [e]; decide)⟩
        | 1, _ => exact ⟨(hPL 1 (by decide)).1, fun k hk => (show A1 34 k = nI (F 1 k) by rw [g1 34 (by decide)]; exact (hPL 1 (by decide)).2.1 k hk), SGm_skip (hPL 1 (by decide)).2.2 (by rw [e]; decide)⟩
        | 2, _ => exact ⟨rfl, h1, SGm_add (hPL 2 (by decide)).2.2 e (fun t ht hto => hdis t m (by omega) (by omega) (by omega) (hto.trans e.symm) (by omega))⟩
        | 3, _ => exact ⟨(hPL 3 (by decide)).1, fun k hk => (show A1 42 k = nI (F 3 k) by rw [g1 42 (by decide)]; exact (hPL 3 (by decide)).2.1 k hk), SGm_skip (hPL 3 (by decide)).2.2 (by rw [e]; decide)⟩
    · refine x_il1 (pc := 40) rfl rfl ?_
      refine x_const (pc := 41) (pc' := 43) (.int (nI 16)) rfl rfl rfl rfl ?_
      refine x_cmpN_ge (pc := 43) (t := 84) rfl rfl (by omega) (by omega) (fun c43 => ?_) (fun c43 => ?_)
      · omega
      · refine x_al1 (pc := 46) rfl rfl ?_
        refine g_1_0 (pc := 47) rfl rfl ?_
        refine x_il1 (pc := 50) rfl rfl ?_
        refine x_k (pc := 51) rfl rfl rfl ⟨Nat.le_of_ble_eq_true rfl, Nat.le_of_ble_eq_true rfl, Nat.le_of_ble_eq_true rfl⟩ rfl (mq_k (c_20 h (by omega)) ?_)
        show mq 16 54 [some (.ref 1), some (.int v), some (.int (nI m)), w3] [.int (nI (oB D m))] (hS n u I A J B mk sn L xs X) _
        refine x_top (y := nI 4) (congrArg nI e) ?_
        refine x_is1 (pc := 54) (ml' := [some (.ref 1), some (.int v), some (.int (nI m)), some (.int (nI 4))]) rfl rfl ?_
        refine x_il1 (pc := 55) rfl rfl ?_
        refine x_const (pc := 56) (pc' := 57) (.int (nI 1)) rfl rfl rfl rfl ?_
        refine x_cmpN_lt (pc := 57) (t := 78) rfl rfl (by decide) (by decide) (fun c => absurd c (by decide)) (fun _ => ?_)
        refine x_il1 (pc := 60) rfl rfl ?_
        refine x_const (pc := 61) (pc' := 62) (.int (nI 4)) rfl rfl rfl rfl ?_
        refine x_cmpN_gt (pc := 62) (t := 78) rfl rfl (by decide) (by decide) (fun c => absurd c (by decide)) (fun _ => ?_)
        refine x_al1 (pc := 65) rfl rfl ?_
        refine x_al1 (pc := 66) rfl rfl ?_
        refine g_1_2 (pc := 67) rfl rfl ?_
        refine x_il1 (pc := 70) rfl rfl ?_
        refine x_const (pc := 71) (pc' := 72) (.int (nI 1)) rfl rfl rfl rfl ?_
        refine x_isubV (pc := 72) (v := nI 3) rfl (by decide) ?_
        refine aal (pc := 73) (q := 3) (a := 28) rfl rfl (by decide) rfl ?_
        refine x_il1 (pc := 74) rfl rfl ?_
        refine x_k (pc := 75) rfl rfl rfl ⟨Nat.le_of_ble_eq_true rfl, Nat.le_of_ble_eq_true rfl, Nat.le_of_ble_eq_true rfl⟩ rfl (k_33_3 (I := I) (A := A) (D := D) (f := F 3) (cn := c 3) h (by have := SGm_n (hPL 3 (by decide)).2.2; omega) (by omega) (fun k hk => ⟨by have := ((hPL 3 (by decide)).2.2.1 k hk).1; omega, hB _ (by have := ((hPL 3 (by decide)).2.2.1 k hk).1; omega) (by rw [((hPL 3 (by decide)).2.2.1 k hk).2]; decide)⟩) (hB m (by omega) (by omega)) (hPL 3 (by decide)).1 (hPL 3 (by decide)).2.1 (by have := SGm_n (hPL 3 (by decide)).2.2; omega) (fun A1 g1 h1 => ?_))
        show mq 16 78 [some (.ref 1), some (.int v), some (.int (nI m)), some (.int (nI 4))] [] (hS n u (va_up I 49 (nI (c 3 + 1))) A1 J B mk sn L xs X) _
        refine x_iincN (pc := 78) (c := 1) (ml' := [some (.ref 1), some (.int v), some (.int (nI (m + 1))), some (.int (nI 4))]) rfl rfl rfl rfl ?_
        refine x_step (pc := 81) (pc' := 40) rfl rfl rfl rfl ?_
        refine ih (m + 1) _ (F := fun l => if l = 3 then insF (F 3) (rkI D (F 3) (bB D m) (c 3)) m else F l) (c := fun l => if l = 3 then c 3 + 1 else c l) (I := va_up I 49 (nI (c 3 + 1))) (A := A1) (by omega) (by rw [g1 0 (by decide)]; exact h) (fun l hl => ?_) (fun I2 A2 F2 c2 w2 f2 g2 h2 => kk I2 A2 F2 c2 w2 (Fr_cons (Fr_u (Fr_refl _ _) (by decide)) f2 (by decide)) (Fr_cons (Fr_cons (Fr_refl _ A) g1 (by decide)) g2 (by decide)) h2)
        match l, hl with
        | 0, _ => exact ⟨(hPL 0 (by decide)).1, fun k hk => (show A1 30 k = nI (F 0 k) by rw [g1 30 (by decide)]; exact (hPL 0 (by decide)).2.1 k hk), SGm_skip (hPL 0 (by decide)).2.2 (by rw [e]; decide)⟩
        | 1, _ => exact ⟨(hPL 1 (by decide)).1, fun k hk => (show A1 34 k = nI (F 1 k) by rw [g1 34 (by decide)]; exact (hPL 1 (by decide)).2.1 k hk), SGm_skip (hPL 1 (by decide)).2.2 (by rw [e]; decide)⟩
        | 2, _ => exact ⟨(hPL 2 (by decide)).1, fun k hk => (show A1 38 k = nI (F 2 k) by rw [g1 38 (by decide)]; exact (hPL 2 (by decide)).2.1 k hk), SGm_skip (hPL 2 (by decide)).2.2 (by rw [e]; decide)⟩
        | 3, _ => exact ⟨rfl, h1, SGm_add (hPL 3 (by decide)).2.2 e (fun t ht hto => hdis t m (by omega) (by omega) (by omega) (hto.trans e.symm) (by omega))⟩
end S76
