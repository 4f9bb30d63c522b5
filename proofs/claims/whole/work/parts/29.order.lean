/-! Counts of slots; the model's segments in their order. -/
/-- how many numbers below s the test takes -/
def cS (p : Nat → Bool) : Nat → Nat
  | 0 => 0
  | s + 1 => cS p s + (if p s = true then 1 else 0)
theorem cS_eq {p p' : Nat → Bool} : ∀ {N : Nat}, (∀ s, s < N → p s = p' s) → cS p N = cS p' N
  | 0, _ => rfl
  | N + 1, h => by
    unfold cS
    rw [cS_eq (fun s hs => h s (by omega)), h N (by omega)]
theorem cS_one {p p' : Nat → Bool} {m : Nat} (hm : p m = true) (hm' : p' m = false) (h : ∀ s, ¬ s = m → p s = p' s) : ∀ {N : Nat}, m < N → cS p N = cS p' N + 1
  | 0, h0 => by omega
  | N + 1, h0 => by
    unfold cS
    by_cases hN : m = N
    · subst hN
      rw [cS_eq (fun s hs => h s (by omega)), hm, hm']
      simp
    · rw [cS_one hm hm' h (show m < N by omega), h N (fun q => hN q.symm)]
      omega
theorem cS_le (p : Nat → Bool) : ∀ N, cS p N ≤ N
  | 0 => Nat.le_refl 0
  | N + 1 => by
    have := cS_le p N
    unfold cS
    split <;> omega
theorem cS_zero {p : Nat → Bool} : ∀ {N : Nat}, (∀ s, s < N → p s = false) → cS p N = 0
  | 0, _ => rfl
  | N + 1, h => by
    unfold cS
    rw [cS_zero (fun s hs => h s (by omega)), h N (by omega)]
    rfl
theorem cS_inj {N : Nat} {f : Nat → Nat} : ∀ {n : Nat} {p : Nat → Bool}, (∀ k, k < n → f k < N) → (∀ j k, j < k → k < n → ¬ f j = f k) → (∀ s, s < N → (p s = true ↔ ∃ k, k < n ∧ f k = s)) → cS p N = n
  | 0, p, _, _, h => cS_zero (fun s hs => by
      cases hp : p s with
      | false => rfl
      | true =>
        obtain ⟨k, hk, _⟩ := (h s hs).mp hp
        omega)
  | n + 1, p, h1, h2, h => by
    have hlt := h1 n (by omega)
    rw [cS_one (p' := fun s => p s && !(decide (s = f n))) (m := f n) ((h _ hlt).mpr ⟨n, by omega, rfl⟩) (by simp) (fun s hs => by simp [hs]) hlt]
    rw [cS_inj (n := n) (f := f) (fun k hk => h1 k (by omega)) (fun j k hj hk => h2 j k hj (by omega)) (fun s hs => ?_)]
    simp only [Bool.and_eq_true, Bool.not_eq_true', decide_eq_false_iff_not]
    constructor
    · rintro ⟨q1, q2⟩
      obtain ⟨k, hk, e⟩ := (h s hs).mp q1
      refine ⟨k, ?_, e⟩
      by_cases hkn : k = n
      · subst hkn
        exact absurd e.symm q2
      · omega
    · rintro ⟨k, hk, e⟩
      exact ⟨(h s hs).mpr ⟨k, by omega, e⟩, fun q => h2 k n hk (by omega) (e.trans q)⟩
def ow (D : Nat → Nat) (l s : Nat) : Bool := decide (oB D s = l + 1)
def lw (D : Nat → Nat) (l b s : Nat) : Bool := decide (oB D s = l + 1) && decide (bB D s < b)
/-- f names the n slots of the log l, by their bases -/
def SG (D : Nat → Nat) (l : Nat) (f : Nat → Nat) (n : Nat) : Prop := (∀ k, k < n → f k < 16 ∧ oB D (f k) = l + 1 ∧ bB D (f k) < 2 ^ 31) ∧ (∀ s, s < 16 → oB D s = l + 1 → ∃ k, k < n ∧ f k = s) ∧ (∀ j k, j < k → k < n → bB D (f j) < bB D (f k))
section S29p
variable {D : Nat → Nat} {l n : Nat} {f : Nat → Nat}
theorem SG_ne (h : SG D l f n) {j k : Nat} (hj : j < k) (hk : k < n) : ¬ f j = f k := fun e => by
  have := h.2.2 j k hj hk
  rw [e] at this
  omega
theorem SG_inj (h : SG D l f n) {j k : Nat} (hj : j < n) (hk : k < n) (e : f j = f k) : j = k := by
  rcases Nat.lt_trichotomy j k with q | q | q
  · exact absurd e (SG_ne h q hk)
  · exact q
  · exact absurd e.symm (SG_ne h q hj)
theorem SG_n (h : SG D l f n) : cS (ow D l) 16 = n := cS_inj (fun k hk => (h.1 k hk).1) (fun j k hj hk => SG_ne h hj hk) (fun s hs => by
  unfold ow
  rw [decide_eq_true_eq]
  exact ⟨fun q => h.2.1 s hs q, fun ⟨k, hk, e⟩ => e ▸ (h.1 k hk).2.1⟩)
theorem SG_le (h : SG D l f n) : n ≤ 16 := by
  rw [← SG_n h]
  exact cS_le _ _
theorem SG_rank (h : SG D l f n) {k : Nat} (hk : k < n) : cS (lw D l (bB D (f k))) 16 = k := cS_inj (f := f) (fun j hj => (h.1 j (by omega)).1) (fun i j hi hj => SG_ne h hi (by omega)) (fun s hs => by
  unfold lw
  rw [Bool.and_eq_true, decide_eq_true_eq, decide_eq_true_eq]
  constructor
  · rintro ⟨q1, q2⟩
    obtain ⟨j, hj, rfl⟩ := h.2.1 s hs q1
    refine ⟨j, ?_, rfl⟩
    rcases Nat.lt_trichotomy j k with q | q | q
    · exact q
    · subst q
      omega
    · have := h.2.2 k j q hj
      omega
  · rintro ⟨j, hj, rfl⟩
    exact ⟨(h.1 j (by omega)).2.1, h.2.2 j k hj hk⟩)
theorem SG_bd (h : SG D l f n) {s : Nat} (hs : s < 16) (ho : oB D s = l + 1) : bB D s < 2 ^ 31 := by
  obtain ⟨k, hk, rfl⟩ := h.2.1 s hs ho
  exact (h.1 k hk).2.2
end S29p
section S29
variable {n u : Nat} {I : Nat → Int32} {A : Nat → Nat → Int32} {J : Int64} {B : Nat → Int64} {mk sn L : Nat} {xs : Nat → Int32} {X : Nat → mC} {D : Nat → Nat} 
set_option maxRecDepth 100000 in
set_option maxHeartbeats 4000000 in
theorem l_117 (h : DK (A 50) D) {l : Nat} (hl : l < 4) (h61 : I 61 = nI 0) {Q : mO × mHp → Prop} : ∀ (z j : Nat) , (j + z = 16) → (Q (.inl (some (.int (nI (cS (ow D l) 16)))), hS n u I A J B mk sn L xs X)) → mq 117 4 [some (.ref 67), some (.int (nI l)), some (.int (nI (cS (ow D l) j))), some (.int (nI j))] [] (hS n u I A J B mk sn L xs X) Q := by
  intro z
  induction z with
  | zero =>
    intro j  hz kk
    refine x_il1 (pc := 4) rfl rfl ?_
    refine x_const (pc := 5) (pc' := 7) (.int (nI 16)) rfl rfl rfl rfl ?_
    refine x_cmpN_ge (pc := 7) (t := 42) rfl rfl (by omega) (by decide) (fun c7 => ?_) (fun c7 => ?_)
    · refine x_il1 (pc := 42) rfl rfl ?_
      refine x_ret (pc := 43) rfl rfl ?_
      have hj : j = 16 := by omega
      subst hj
      exact kk
    · omega
  | succ z ih =>
    intro j  hz kk
    refine x_il1 (pc := 4) rfl rfl ?_
    refine x_const (pc := 5) (pc' := 7) (.int (nI 16)) rfl rfl rfl rfl ?_
    refine x_cmpN_ge (pc := 7) (t := 42) rfl rfl (by omega) (by decide) (fun c7 => ?_) (fun c7 => ?_)
    · omega
    · refine x_il1 (pc := 10) rfl rfl ?_
      refine x_al1 (pc := 11) rfl rfl ?_
      refine g_67_2 (pc := 12) (v := nI 0) rfl rfl h61 ?_
      refine x_ifN_ne (pc := 15) (t := 33) rfl rfl (by decide) (fun c15 => ?_) (fun c15 => ?_)
      · exact absurd rfl c15
      · refine x_al1 (pc := 18) rfl rfl ?_
        refine x_il1 (pc := 19) rfl rfl ?_
        refine x_k (pc := 20) rfl rfl rfl ⟨Nat.le_of_ble_eq_true rfl, Nat.le_of_ble_eq_true rfl, Nat.le_of_ble_eq_true rfl⟩ rfl (mq_k (c_118 h (by omega)) ?_)
        show mq 117 23 [some (.ref 67), some (.int (nI l)), some (.int (nI (cS (ow D l) j))), some (.int (nI j))] [.int (nI (oB D j)), .int (nI (cS (ow D l) j))] (hS n u I A J B mk sn L xs X) _
        refine x_il1 (pc := 23) rfl rfl ?_
        refine x_const (pc := 24) (pc' := 25) (.int (nI 1)) rfl rfl rfl rfl ?_
        refine x_iaddN (pc := 25) (c := l + 1) rfl rfl ?_
        refine x_cmpN_ne (pc := 26) (t := 33) rfl rfl (Nat.lt_trans (h.2.1 _) (by decide)) (by omega) (fun c26 => ?_) (fun c26 => ?_)
        · refine x_const (pc := 33) (pc' := 34) (.int (nI 0)) rfl rfl rfl rfl ?_
          refine x_iaddN (pc := 34) (c := (cS (ow D l) j) + 0) rfl rfl ?_
          refine x_top (y := nI (cS (ow D l) (j + 1))) (congrArg nI (show _ = cS (ow D l) j + _ from by unfold ow; rw [if_neg (by simpa using c26)])) ?_
          refine x_is1 (pc := 35) (ml' := [some (.ref 67), some (.int (nI l)), some (.int (nI (cS (ow D l) (j + 1)))), some (.int (nI j))]) rfl rfl ?_
          refine x_iincN (pc := 36) (c := 1) (ml' := [some (.ref 67), some (.int (nI l)), some (.int (nI (cS (ow D l) (j + 1)))), some (.int (nI (j + 1)))]) rfl rfl rfl rfl ?_
          refine x_step (pc := 39) (pc' := 4) rfl rfl rfl rfl ?_
          exact ih (j + 1) (by omega) kk
        · refine x_const (pc := 29) (pc' := 30) (.int (nI 1)) rfl rfl rfl rfl ?_
          refine x_step (pc := 30) (pc' := 34) rfl rfl rfl rfl ?_
          refine x_iaddN (pc := 34) (c := (cS (ow D l) j) + 1) rfl rfl ?_
          refine x_top (y := nI (cS (ow D l) (j + 1))) (congrArg nI (show _ = cS (ow D l) j + _ from by unfold ow; rw [if_pos (by simpa using c26)])) ?_
          refine x_is1 (pc := 35) (ml' := [some (.ref 67), some (.int (nI l)), some (.int (nI (cS (ow D l) (j + 1)))), some (.int (nI j))]) rfl rfl ?_
          refine x_iincN (pc := 36) (c := 1) (ml' := [some (.ref 67), some (.int (nI l)), some (.int (nI (cS (ow D l) (j + 1)))), some (.int (nI (j + 1)))]) rfl rfl rfl rfl ?_
          refine x_step (pc := 39) (pc' := 4) rfl rfl rfl rfl ?_
          exact ih (j + 1) (by omega) kk
set_option maxRecDepth 100000 in
set_option maxHeartbeats 4000000 in
theorem k_117 (h : DK (A 50) D) {l : Nat} (hl : l < 4) (h61 : I 61 = nI 0) {Q : mO × mHp → Prop} (kk : Q (.inl (some (.int (nI (cS (ow D l) 16)))), hS n u I A J B mk sn L xs X)) : mq 117 0 [some (.ref 67), some (.int (nI l)), none, none] [] (hS n u I A J B mk sn L xs X) Q := by
  refine x_const (pc := 0) (pc' := 1) (.int (nI 0)) rfl rfl rfl rfl ?_
  refine x_is1 (pc := 1) (ml' := [some (.ref 67), some (.int (nI l)), some (.int (nI 0)), none]) rfl rfl ?_
  refine x_const (pc := 2) (pc' := 3) (.int (nI 0)) rfl rfl rfl rfl ?_
  refine x_is1 (pc := 3) (ml' := [some (.ref 67), some (.int (nI l)), some (.int (nI 0)), some (.int (nI 0))]) rfl rfl ?_
  exact l_117 h hl h61 16 0 rfl kk
set_option maxRecDepth 100000 in
set_option maxHeartbeats 4000000 in
theorem l_117f {l : Int32} (h61 : I 61 = nI 1) {Q : mO × mHp → Prop} : ∀ (z j : Nat) , (j + z = 16) → (Q (.inl (some (.int (nI 0))), hS n u I A J B mk sn L xs X)) → mq 117 4 [some (.ref 67), some (.int l), some (.int (nI 0)), some (.int (nI j))] [] (hS n u I A J B mk sn L xs X) Q := by
  intro z
  induction z with
  | zero =>
    intro j  hz kk
    refine x_il1 (pc := 4) rfl rfl ?_
    refine x_const (pc := 5) (pc' := 7) (.int (nI 16)) rfl rfl rfl rfl ?_
    refine x_cmpN_ge (pc := 7) (t := 42) rfl rfl (by omega) (by decide) (fun c7 => ?_) (fun c7 => ?_)
    · refine x_il1 (pc := 42) rfl rfl ?_
      refine x_ret (pc := 43) rfl rfl ?_
      exact kk
    · omega
  | succ z ih =>
    intro j  hz kk
    refine x_il1 (pc := 4) rfl rfl ?_
    refine x_const (pc := 5) (pc' := 7) (.int (nI 16)) rfl rfl rfl rfl ?_
    refine x_cmpN_ge (pc := 7) (t := 42) rfl rfl (by omega) (by decide) (fun c7 => ?_) (fun c7 => ?_)
    · omega
    · refine x_il1 (pc := 10) rfl rfl ?_
      refine x_al1 (pc := 11) rfl rfl ?_
      refine g_67_2 (pc := 12) (v := nI 1) rfl rfl h61 ?_
      refine x_ifN_ne (pc := 15) (t := 33) rfl rfl (by decide) (fun c15 => ?_) (fun c15 => ?_)
      · refine x_const (pc := 33) (pc' := 34) (.int (nI 0)) rfl rfl rfl rfl ?_
        refine x_iaddN (pc := 34) (c := 0) rfl rfl ?_
        refine x_is1 (pc := 35) (ml' := [some (.ref 67), some (.int l), some (.int (nI 0)), some (.int (nI j))]) rfl rfl ?_
        refine x_iincN (pc := 36) (c := 1) (ml' := [some (.ref 67), some (.int l), some (.int (nI 0)), some (.int (nI (j + 1)))]) rfl rfl rfl rfl ?_
        refine x_step (pc := 39) (pc' := 4) rfl rfl rfl rfl ?_
        exact ih (j + 1) (by omega) kk
      · exact absurd c15 (by decide)
set_option maxRecDepth 100000 in
set_option maxHeartbeats 4000000 in
theorem k_117f {l : Int32} (h61 : I 61 = nI 1) {Q : mO × mHp → Prop} (kk : Q (.inl (some (.int (nI 0))), hS n u I A J B mk sn L xs X)) : mq 117 0 [some (.ref 67), some (.int l), none, none] [] (hS n u I A J B mk sn L xs X) Q := by
  refine x_const (pc := 0) (pc' := 1) (.int (nI 0)) rfl rfl rfl rfl ?_
  refine x_is1 (pc := 1) (ml' := [some (.ref 67), some (.int l), some (.int (nI 0)), none]) rfl rfl ?_
  refine x_const (pc := 2) (pc' := 3) (.int (nI 0)) rfl rfl rfl rfl ?_
  refine x_is1 (pc := 3) (ml' := [some (.ref 67), some (.int l), some (.int (nI 0)), some (.int (nI 0))]) rfl rfl ?_
  exact l_117f h61 16 0 rfl kk
set_option maxRecDepth 100000 in
set_option maxHeartbeats 4000000 in
theorem l_119f {l m : Int32} {w1 w2 : Option Value} (h61 : I 61 = nI 1) {Q : mO × mHp → Prop} : ∀ (z j : Nat) , (j + z = 16) → (Q (.inl (some (.int (-1))), hS n u I A J B mk sn L xs X)) → mq 119 2 [some (.ref 67), some (.int l), some (.int m), some (.int (nI j)), w1, w2] [] (hS n u I A J B mk sn L xs X) Q := by
  intro z
  induction z with
  | zero =>
    intro j  hz kk
    refine x_il1 (pc := 2) rfl rfl ?_
    refine x_const (pc := 3) (pc' := 5) (.int (nI 16)) rfl rfl rfl rfl ?_
    refine x_cmpN_ge (pc := 5) (t := 98) rfl rfl (by omega) (by decide) (fun c5 => ?_) (fun c5 => ?_)
    · refine x_const (pc := 98) (pc' := 99) (.int (-1)) rfl rfl rfl rfl ?_
      refine x_ret (pc := 99) rfl rfl ?_
      exact kk
    · omega
  | succ z ih =>
    intro j  hz kk
    refine x_il1 (pc := 2) rfl rfl ?_
    refine x_const (pc := 3) (pc' := 5) (.int (nI 16)) rfl rfl rfl rfl ?_
    refine x_cmpN_ge (pc := 5) (t := 98) rfl rfl (by omega) (by decide) (fun c5 => ?_) (fun c5 => ?_)
    · omega
    · refine x_al1 (pc := 8) rfl rfl ?_
      refine g_67_2 (pc := 9) (v := nI 1) rfl rfl h61 ?_
      refine x_ifN_ne (pc := 12) (t := 92) rfl rfl (by decide) (fun c12 => ?_) (fun c12 => ?_)
      · refine x_iincN (pc := 92) (c := 1) (ml' := [some (.ref 67), some (.int l), some (.int m), some (.int (nI (j + 1))), w1, w2]) rfl rfl rfl rfl ?_
        refine x_step (pc := 95) (pc' := 2) rfl rfl rfl rfl ?_
        exact ih (j + 1) (by omega) kk
      · exact absurd c12 (by decide)
set_option maxRecDepth 100000 in
set_option maxHeartbeats 4000000 in
theorem k_119f {l m : Int32} (h61 : I 61 = nI 1) {Q : mO × mHp → Prop} (kk : Q (.inl (some (.int (-1))), hS n u I A J B mk sn L xs X)) : mq 119 0 [some (.ref 67), some (.int l), some (.int m), none, none, none] [] (hS n u I A J B mk sn L xs X) Q := by
  refine x_const (pc := 0) (pc' := 1) (.int (nI 0)) rfl rfl rfl rfl ?_
  refine x_is1 (pc := 1) (ml' := [some (.ref 67), some (.int l), some (.int m), some (.int (nI 0)), none, none]) rfl rfl ?_
  exact l_119f h61 16 0 rfl kk
set_option maxRecDepth 100000 in
set_option maxHeartbeats 4000000 in
theorem l_119n (h : DK (A 50) D) {l : Nat} {m : Int32} {w1 w2 : Option Value} (hl : l < 4) (h61 : I 61 = nI 0) (hno : ∀ s, s < 16 → ¬ oB D s = l + 1) {Q : mO × mHp → Prop} : ∀ (z j : Nat) , (j + z = 16) → (Q (.inl (some (.int (-1))), hS n u I A J B mk sn L xs X)) → mq 119 2 [some (.ref 67), some (.int (nI l)), some (.int m), some (.int (nI j)), w1, w2] [] (hS n u I A J B mk sn L xs X) Q := by
  intro z
  induction z with
  | zero =>
    intro j  hz kk
    refine x_il1 (pc := 2) rfl rfl ?_
    refine x_const (pc := 3) (pc' := 5) (.int (nI 16)) rfl rfl rfl rfl ?_
    refine x_cmpN_ge (pc := 5) (t := 98) rfl rfl (by omega) (by decide) (fun c5 => ?_) (fun c5 => ?_)
    · refine x_const (pc := 98) (pc' := 99) (.int (-1)) rfl rfl rfl rfl ?_
      refine x_ret (pc := 99) rfl rfl ?_
      exact kk
    · omega
  | succ z ih =>
    intro j  hz kk
    refine x_il1 (pc := 2) rfl rfl ?_
    refine x_const (pc := 3) (pc' := 5) (.int (nI 16)) rfl rfl rfl rfl ?_
    refine x_cmpN_ge (pc := 5) (t := 98) rfl rfl (by omega) (by decide) (fun c5 => ?_) (fun c5 => ?_)
    · omega
    · refine x_al1 (pc := 8) rfl rfl ?_
      refine g_67_2 (pc := 9) (v := nI 0) rfl rfl h61 ?_
      refine x_ifN_ne (pc := 12) (t := 92) rfl rfl (by decide) (fun c12 => ?_) (fun c12 => ?_)
      · exact absurd rfl c12
      · refine x_al1 (pc := 15) rfl rfl ?_
        refine x_il1 (pc := 16) rfl rfl ?_
        refine x_k (pc := 17) rfl rfl rfl ⟨Nat.le_of_ble_eq_true rfl, Nat.le_of_ble_eq_true rfl, Nat.le_of_ble_eq_true rfl⟩ rfl (mq_k (c_118 h (by omega)) ?_)
        show mq 119 20 [some (.ref 67), some (.int (nI l)), some (.int m), some (.int (nI j)), w1, w2] [.int (nI (oB D j))] (hS n u I A J B mk sn L xs X) _
        refine x_il1 (pc := 20) rfl rfl ?_
        refine x_const (pc := 21) (pc' := 22) (.int (nI 1)) rfl rfl rfl rfl ?_
        refine x_iaddN (pc := 22) (c := l + 1) rfl rfl ?_
        refine x_cmpN_eq (pc := 23) (t := 29) rfl rfl (Nat.lt_trans (h.2.1 _) (by decide)) (by omega) (fun c23 => ?_) (fun c23 => ?_)
        · exact absurd c23 (hno j (by omega))
        · refine x_step (pc := 26) (pc' := 92) rfl rfl rfl rfl ?_
          refine x_iincN (pc := 92) (c := 1) (ml' := [some (.ref 67), some (.int (nI l)), some (.int m), some (.int (nI (j + 1))), w1, w2]) rfl rfl rfl rfl ?_
          refine x_step (pc := 95) (pc' := 2) rfl rfl rfl rfl ?_
          exact ih (j + 1) (by omega) kk
set_option maxRecDepth 100000 in
set_option maxHeartbeats 4000000 in
theorem k_119n (h : DK (A 50) D) {l : Nat} {m : Int32} (hl : l < 4) (h61 : I 61 = nI 0) (hno : ∀ s, s < 16 → ¬ oB D s = l + 1) {Q : mO × mHp → Prop} (kk : Q (.inl (some (.int (-1))), hS n u I A J B mk sn L xs X)) : mq 119 0 [some (.ref 67), some (.int (nI l)), some (.int m), none, none, none] [] (hS n u I A J B mk sn L xs X) Q := by
  refine x_const (pc := 0) (pc' := 1) (.int (nI 0)) rfl rfl rfl rfl ?_
  refine x_is1 (pc := 1) (ml' := [some (.ref 67), some (.int (nI l)), some (.int m), some (.int (nI 0)), none, none]) rfl rfl ?_
  exact l_119n h hl h61 hno 16 0 rfl kk
set_option maxRecDepth 100000 in
set_option maxHeartbeats 4000000 in
theorem l_119r (h : DK (A 50) D) {l m j : Nat} (hl : l < 4) (hj : j < 16) (hb : ∀ s, s < 16 → oB D s = l + 1 → bB D s < 2 ^ 31) (hoj : oB D j = l + 1) {Q : mO × mHp → Prop} : ∀ (z i : Nat) , (i + z = 16) → (mq 119 84 [some (.ref 67), some (.int (nI l)), some (.int (nI m)), some (.int (nI j)), some (.int (nI (cS (lw D l (bB D j)) 16))), some (.int (nI 16))] [] (hS n u I A J B mk sn L xs X) Q) → mq 119 35 [some (.ref 67), some (.int (nI l)), some (.int (nI m)), some (.int (nI j)), some (.int (nI (cS (lw D l (bB D j)) i))), some (.int (nI i))] [] (hS n u I A J B mk sn L xs X) Q := by
  intro z
  induction z with
  | zero =>
    intro i  hz kk
    refine x_il2 (pc := 35) rfl rfl ?_
    refine x_const (pc := 37) (pc' := 39) (.int (nI 16)) rfl rfl rfl rfl ?_
    refine x_cmpN_ge (pc := 39) (t := 84) rfl rfl (by omega) (by decide) (fun c39 => ?_) (fun c39 => ?_)
    · have hi : i = 16 := by omega
      subst hi
      exact kk
    · omega
  | succ z ih =>
    intro i  hz kk
    refine x_il2 (pc := 35) rfl rfl ?_
    refine x_const (pc := 37) (pc' := 39) (.int (nI 16)) rfl rfl rfl rfl ?_
    refine x_cmpN_ge (pc := 39) (t := 84) rfl rfl (by omega) (by decide) (fun c39 => ?_) (fun c39 => ?_)
    · omega
    · refine x_il2 (pc := 42) rfl rfl ?_
      refine x_al1 (pc := 44) rfl rfl ?_
      refine x_il2 (pc := 45) rfl rfl ?_
      refine x_k (pc := 47) rfl rfl rfl ⟨Nat.le_of_ble_eq_true rfl, Nat.le_of_ble_eq_true rfl, Nat.le_of_ble_eq_true rfl⟩ rfl (mq_k (c_118 h (by omega)) ?_)
      show mq 119 50 [some (.ref 67), some (.int (nI l)), some (.int (nI m)), some (.int (nI j)), some (.int (nI (cS (lw D l (bB D j)) i))), some (.int (nI i))] [.int (nI (oB D i)), .int (nI (cS (lw D l (bB D j)) i))] (hS n u I A J B mk sn L xs X) _
      refine x_il1 (pc := 50) rfl rfl ?_
      refine x_const (pc := 51) (pc' := 52) (.int (nI 1)) rfl rfl rfl rfl ?_
      refine x_iaddN (pc := 52) (c := l + 1) rfl rfl ?_
      refine x_cmpN_ne (pc := 53) (t := 74) rfl rfl (Nat.lt_trans (h.2.1 _) (by decide)) (by omega) (fun c53 => ?_) (fun c53 => ?_)
      · refine x_const (pc := 74) (pc' := 75) (.int (nI 0)) rfl rfl rfl rfl ?_
        refine x_iaddN (pc := 75) (c := (cS (lw D l (bB D j)) i) + 0) rfl rfl ?_
        refine x_top (y := nI (cS (lw D l (bB D j)) (i + 1))) (congrArg nI (show _ = cS (lw D l (bB D j)) i + _ from by unfold lw; rw [if_neg (by simp [c53])])) ?_
        refine x_is2 (pc := 76) (ml' := [some (.ref 67), some (.int (nI l)), some (.int (nI m)), some (.int (nI j)), some (.int (nI (cS (lw D l (bB D j)) (i + 1)))), some (.int (nI i))]) rfl rfl ?_
        refine x_iincN (pc := 78) (c := 1) (ml' := [some (.ref 67), some (.int (nI l)), some (.int (nI m)), some (.int (nI j)), some (.int (nI (cS (lw D l (bB D j)) (i + 1)))), some (.int (nI (i + 1)))]) rfl rfl rfl rfl ?_
        refine x_step (pc := 81) (pc' := 35) rfl rfl rfl rfl ?_
        exact ih (i + 1) (by omega) kk
      · refine x_al1 (pc := 56) rfl rfl ?_
        refine x_il2 (pc := 57) rfl rfl ?_
        refine x_k (pc := 59) rfl rfl rfl ⟨Nat.le_of_ble_eq_true rfl, Nat.le_of_ble_eq_true rfl, Nat.le_of_ble_eq_true rfl⟩ rfl (mq_k (c_120 h (by omega)) ?_)
        show mq 119 62 [some (.ref 67), some (.int (nI l)), some (.int (nI m)), some (.int (nI j)), some (.int (nI (cS (lw D l (bB D j)) i))), some (.int (nI i))] [.int (nI (bB D i)), .int (nI (cS (lw D l (bB D j)) i))] (hS n u I A J B mk sn L xs X) _
        refine x_al1 (pc := 62) rfl rfl ?_
        refine x_il1 (pc := 63) rfl rfl ?_
        refine x_k (pc := 64) rfl rfl rfl ⟨Nat.le_of_ble_eq_true rfl, Nat.le_of_ble_eq_true rfl, Nat.le_of_ble_eq_true rfl⟩ rfl (mq_k (c_120 h hj) ?_)
        show mq 119 67 [some (.ref 67), some (.int (nI l)), some (.int (nI m)), some (.int (nI j)), some (.int (nI (cS (lw D l (bB D j)) i))), some (.int (nI i))] [.int (nI (bB D j)), .int (nI (bB D i)), .int (nI (cS (lw D l (bB D j)) i))] (hS n u I A J B mk sn L xs X) _
        refine x_cmpN_ge (pc := 67) (t := 74) rfl rfl (hb i (by omega) c53) (hb j hj hoj) (fun c67 => ?_) (fun c67 => ?_)
        · refine x_const (pc := 74) (pc' := 75) (.int (nI 0)) rfl rfl rfl rfl ?_
          refine x_iaddN (pc := 75) (c := (cS (lw D l (bB D j)) i) + 0) rfl rfl ?_
          refine x_top (y := nI (cS (lw D l (bB D j)) (i + 1))) (congrArg nI (show _ = cS (lw D l (bB D j)) i + _ from by unfold lw; rw [if_neg (by simpa using fun q => c67)])) ?_
          refine x_is2 (pc := 76) (ml' := [some (.ref 67), some (.int (nI l)), some (.int (nI m)), some (.int (nI j)), some (.int (nI (cS (lw D l (bB D j)) (i + 1)))), some (.int (nI i))]) rfl rfl ?_
          refine x_iincN (pc := 78) (c := 1) (ml' := [some (.ref 67), some (.int (nI l)), some (.int (nI m)), some (.int (nI j)), some (.int (nI (cS (lw D l (bB D j)) (i + 1)))), some (.int (nI (i + 1)))]) rfl rfl rfl rfl ?_
          refine x_step (pc := 81) (pc' := 35) rfl rfl rfl rfl ?_
          exact ih (i + 1) (by omega) kk
        · refine x_const (pc := 70) (pc' := 71) (.int (nI 1)) rfl rfl rfl rfl ?_
          refine x_step (pc := 71) (pc' := 75) rfl rfl rfl rfl ?_
          refine x_iaddN (pc := 75) (c := (cS (lw D l (bB D j)) i) + 1) rfl rfl ?_
          refine x_top (y := nI (cS (lw D l (bB D j)) (i + 1))) (congrArg nI (show _ = cS (lw D l (bB D j)) i + _ from by unfold lw; rw [if_pos (by simpa using ⟨c53, Nat.lt_of_not_le c67⟩)])) ?_
          refine x_is2 (pc := 76) (ml' := [some (.ref 67), some (.int (nI l)), some (.int (nI m)), some (.int (nI j)), some (.int (nI (cS (lw D l (bB D j)) (i + 1)))), some (.int (nI i))]) rfl rfl ?_
          refine x_iincN (pc := 78) (c := 1) (ml' := [some (.ref 67), some (.int (nI l)), some (.int (nI m)), some (.int (nI j)), some (.int (nI (cS (lw D l (bB D j)) (i + 1)))), some (.int (nI (i + 1)))]) rfl rfl rfl rfl ?_
          refine x_step (pc := 81) (pc' := 35) rfl rfl rfl rfl ?_
          exact ih (i + 1) (by omega) kk
set_option maxRecDepth 100000 in
set_option maxHeartbeats 4000000 in
theorem l_119 (h : DK (A 50) D) {l m n' : Nat} {f : Nat → Nat} (hG : SG D l f n') (hm : m < n') (hl : l < 4) (h61 : I 61 = nI 0) {Q : mO × mHp → Prop} : ∀ (z j : Nat) (w1 w2 : Option Value), (j + z = f m) → (Q (.inl (some (.int (nI (f m)))), hS n u I A J B mk sn L xs X)) → mq 119 2 [some (.ref 67), some (.int (nI l)), some (.int (nI m)), some (.int (nI j)), w1, w2] [] (hS n u I A J B mk sn L xs X) Q := by
  intro z
  induction z with
  | zero =>
    intro j w1 w2 hz kk
    have hf := (hG.1 m hm).1
    have hj : j = f m := by omega
    have hn16 := SG_le hG
    refine x_il1 (pc := 2) rfl rfl ?_
    refine x_const (pc := 3) (pc' := 5) (.int (nI 16)) rfl rfl rfl rfl ?_
    refine x_cmpN_ge (pc := 5) (t := 98) rfl rfl (by omega) (by decide) (fun c5 => ?_) (fun c5 => ?_)
    · omega
    · refine x_al1 (pc := 8) rfl rfl ?_
      refine g_67_2 (pc := 9) (v := nI 0) rfl rfl h61 ?_
      refine x_ifN_ne (pc := 12) (t := 92) rfl rfl (by decide) (fun c12 => ?_) (fun c12 => ?_)
      · exact absurd rfl c12
      · refine x_al1 (pc := 15) rfl rfl ?_
        refine x_il1 (pc := 16) rfl rfl ?_
        refine x_k (pc := 17) rfl rfl rfl ⟨Nat.le_of_ble_eq_true rfl, Nat.le_of_ble_eq_true rfl, Nat.le_of_ble_eq_true rfl⟩ rfl (mq_k (c_118 h (by omega)) ?_)
        show mq 119 20 [some (.ref 67), some (.int (nI l)), some (.int (nI m)), some (.int (nI j)), w1, w2] [.int (nI (oB D j))] (hS n u I A J B mk sn L xs X) _
        refine x_il1 (pc := 20) rfl rfl ?_
        refine x_const (pc := 21) (pc' := 22) (.int (nI 1)) rfl rfl rfl rfl ?_
        refine x_iaddN (pc := 22) (c := l + 1) rfl rfl ?_
        refine x_cmpN_eq (pc := 23) (t := 29) rfl rfl (Nat.lt_trans (h.2.1 _) (by decide)) (by omega) (fun c23 => ?_) (fun c23 => ?_)
        · refine x_const (pc := 29) (pc' := 30) (.int (nI 0)) rfl rfl rfl rfl ?_
          refine x_is2 (pc := 30) (ml' := [some (.ref 67), some (.int (nI l)), some (.int (nI m)), some (.int (nI j)), some (.int (nI 0)), w2]) rfl rfl ?_
          refine x_const (pc := 32) (pc' := 33) (.int (nI 0)) rfl rfl rfl rfl ?_
          refine x_is2 (pc := 33) (ml' := [some (.ref 67), some (.int (nI l)), some (.int (nI m)), some (.int (nI j)), some (.int (nI 0)), some (.int (nI 0))]) rfl rfl ?_
          refine l_119r h hl (by omega) (fun s hs ho => SG_bd hG hs ho) c23 16 0 rfl ?_
          refine x_il2 (pc := 84) rfl rfl ?_
          refine x_il1 (pc := 86) rfl rfl ?_
          refine x_cmpN_ne (pc := 87) (t := 92) rfl rfl (by have := cS_le (lw D l (bB D j)) 16; omega) (by omega) (fun c87 => ?_) (fun c87 => ?_)
          · exact absurd (by rw [hj]; exact SG_rank hG hm) c87
          · refine x_il1 (pc := 90) rfl rfl ?_
            refine x_ret (pc := 91) rfl rfl ?_
            rw [hj]
            exact kk
        · exact absurd (by rw [hj]; exact (hG.1 m hm).2.1) c23
  | succ z ih =>
    intro j w1 w2 hz kk
    have hf := (hG.1 m hm).1
    have hn16 := SG_le hG
    refine x_il1 (pc := 2) rfl rfl ?_
    refine x_const (pc := 3) (pc' := 5) (.int (nI 16)) rfl rfl rfl rfl ?_
    refine x_cmpN_ge (pc := 5) (t := 98) rfl rfl (by omega) (by decide) (fun c5 => ?_) (fun c5 => ?_)
    · omega
    · refine x_al1 (pc := 8) rfl rfl ?_
      refine g_67_2 (pc := 9) (v := nI 0) rfl rfl h61 ?_
      refine x_ifN_ne (pc := 12) (t := 92) rfl rfl (by decide) (fun c12 => ?_) (fun c12 => ?_)
      · exact absurd rfl c12
      · refine x_al1 (pc := 15) rfl rfl ?_
        refine x_il1 (pc := 16) rfl rfl ?_
        refine x_k (pc := 17) rfl rfl rfl ⟨Nat.le_of_ble_eq_true rfl, Nat.le_of_ble_eq_true rfl, Nat.le_of_ble_eq_true rfl⟩ rfl (mq_k (c_118 h (by omega)) ?_)
        show mq 119 20 [some (.ref 67), some (.int (nI l)), some (.int (nI m)), some (.int (nI j)), w1, w2] [.int (nI (oB D j))] (hS n u I A J B mk sn L xs X) _
        refine x_il1 (pc := 20) rfl rfl ?_
        refine x_const (pc := 21) (pc' := 22) (.int (nI 1)) rfl rfl rfl rfl ?_
        refine x_iaddN (pc := 22) (c := l + 1) rfl rfl ?_
        refine x_cmpN_eq (pc := 23) (t := 29) rfl rfl (Nat.lt_trans (h.2.1 _) (by decide)) (by omega) (fun c23 => ?_) (fun c23 => ?_)
        · refine x_const (pc := 29) (pc' := 30) (.int (nI 0)) rfl rfl rfl rfl ?_
          refine x_is2 (pc := 30) (ml' := [some (.ref 67), some (.int (nI l)), some (.int (nI m)), some (.int (nI j)), some (.int (nI 0)), w2]) rfl rfl ?_
          refine x_const (pc := 32) (pc' := 33) (.int (nI 0)) rfl rfl rfl rfl ?_
          refine x_is2 (pc := 33) (ml' := [some (.ref 67), some (.int (nI l)), some (.int (nI m)), some (.int (nI j)), some (.int (nI 0)), some (.int (nI 0))]) rfl rfl ?_
          refine l_119r h hl (by omega) (fun s hs ho => SG_bd hG hs ho) c23 16 0 rfl ?_
          refine x_il2 (pc := 84) rfl rfl ?_
          refine x_il1 (pc := 86) rfl rfl ?_
          refine x_cmpN_ne (pc := 87) (t := 92) rfl rfl (by have := cS_le (lw D l (bB D j)) 16; omega) (by omega) (fun c87 => ?_) (fun c87 => ?_)
          · refine x_iincN (pc := 92) (c := 1) (ml' := [some (.ref 67), some (.int (nI l)), some (.int (nI m)), some (.int (nI (j + 1))), some (.int (nI (cS (lw D l (bB D j)) 16))), some (.int (nI 16))]) rfl rfl rfl rfl ?_
            refine x_step (pc := 95) (pc' := 2) rfl rfl rfl rfl ?_
            exact ih (j + 1) _ _ (by omega) kk
          · exfalso
            obtain ⟨i, hi, e⟩ := hG.2.1 j (by omega) c23
            rw [← e, SG_rank hG hi] at c87
            subst c87
            omega
        · refine x_step (pc := 26) (pc' := 92) rfl rfl rfl rfl ?_
          refine x_iincN (pc := 92) (c := 1) (ml' := [some (.ref 67), some (.int (nI l)), some (.int (nI m)), some (.int (nI (j + 1))), w1, w2]) rfl rfl rfl rfl ?_
          refine x_step (pc := 95) (pc' := 2) rfl rfl rfl rfl ?_
          exact ih (j + 1) w1 w2 (by omega) kk
set_option maxRecDepth 100000 in
set_option maxHeartbeats 4000000 in
theorem k_119 (h : DK (A 50) D) {l m n' : Nat} {f : Nat → Nat} (hG : SG D l f n') (hm : m < n') (hl : l < 4) (h61 : I 61 = nI 0) {Q : mO × mHp → Prop} (kk : Q (.inl (some (.int (nI (f m)))), hS n u I A J B mk sn L xs X)) : mq 119 0 [some (.ref 67), some (.int (nI l)), some (.int (nI m)), none, none, none] [] (hS n u I A J B mk sn L xs X) Q := by
  refine x_const (pc := 0) (pc' := 1) (.int (nI 0)) rfl rfl rfl rfl ?_
  refine x_is1 (pc := 1) (ml' := [some (.ref 67), some (.int (nI l)), some (.int (nI m)), some (.int (nI 0)), none, none]) rfl rfl ?_
  exact l_119 h hG hm hl h61 (f m) 0 none none (Nat.zero_add _) kk
end S29
