/-! A batch is appended: the class. -/
theorem vE_by : ∀ f n, ∀ x ∈ vE f n, x < 256
  | 0, n, x, h => by
    have h1 : x = n % 256 := List.mem_singleton.mp h
    omega
  | f + 1, n, x, h => by
    have h' : x ∈ (if n / 128 = 0 then [n % 256] else (n % 128 + 128) :: vE f (n / 128)) := h
    by_cases hz : n / 128 = 0
    · rw [if_pos hz] at h'
      have h1 : x = n % 256 := List.mem_singleton.mp h'
      omega
    · rw [if_neg hz] at h'
      rcases List.mem_cons.mp h' with h1 | h1
      · omega
      · exact vE_by f _ x h1
theorem eR_by (f r : R5) : ∀ x ∈ eR f r, x < 256 := by
  intro x h
  unfold eR at h
  simp only [List.mem_append, List.mem_cons] at h
  rcases h with h | h | h | h | h
  · exact vE_by _ _ x h
  · exact vE_by _ _ x h
  · exact vE_by _ _ x h
  · rw [h]
    exact b8_lt _
  · split at h
    · exact vE_by _ _ x h
    · exact absurd h (List.not_mem_nil)
theorem eRs_by (f : R5) : ∀ l, ∀ x ∈ eRs f l, x < 256
  | [], x, h => absurd h (List.not_mem_nil)
  | r :: t, x, h => by
    rcases List.mem_append.mp (show x ∈ eR f r ++ eRs f t from h) with h1 | h1
    · exact eR_by f r x h1
    · exact eRs_by f t x h1
theorem eBt_by (b p s : Int32) (l : List R5) : ∀ x ∈ eBt b p s l, x < 256 := by
  intro x h
  unfold eBt eCn at h
  simp only [List.mem_append, List.mem_cons] at h
  rcases h with h | h | h | h | h | h | h
  · omega
  · exact vE_by _ _ x h
  · exact vE_by _ _ x h
  · rw [h]
    exact b8_lt _
  · exact vE_by _ _ x h
  · omega
  · exact eRs_by _ _ x h
theorem eBt_len (b p s : Int32) (l : List R5) : (eBt b p s l).length ≤ 18 + 21 * l.length := by
  have h := eCn_len b p s l
  show (eCn b p s l).length + 1 ≤ _
  omega
/-- the records numbered from N on -/
def nmb : Nat → List R5 → List R5
  | _, [] => []
  | N, r :: t => (nI N, r.2) :: nmb (N + 1) t
theorem nmb_len : ∀ (l : List R5) (N : Nat), (nmb N l).length = l.length
  | [], _ => rfl
  | _ :: t, N => congrArg (· + 1) (nmb_len t (N + 1))
theorem gR_nmb : ∀ (l : List R5) (N k : Nat), k < l.length → gR (nmb N l) k = (nI (N + k), (gR l k).2)
  | [], _, k, h => absurd h (Nat.not_lt_zero k)
  | _ :: _, _, 0, _ => rfl
  | r :: t, N, k + 1, h => by
    have h1 := gR_nmb t (N + 1) k (Nat.lt_of_succ_lt_succ h)
    rw [show N + 1 + k = N + (k + 1) by omega] at h1
    exact h1
theorem wrs_app (S : DS) (a b : List WI) : wrs S (a ++ b) = wrs (wrs S a) b := List.foldl_append
/-- the writes of an append to slot s: the bytes t at m, then the mark; a new slot's head -/
def apW (s m : Nat) (t : List Nat) : List WI := spW s m (m + t.length) t 4 m ++ [mkW s (m + t.length)]
def hdW (s l N : Nat) : WI := wi (128 * s) 32 (gB0 (hdr 8 (l + 1) 0 N))
theorem hdr_by (m o g b : Nat) : ∀ x ∈ hdr m o g b, x < 256 := by
  intro x h
  unfold hdr at h
  simp only [List.mem_cons, List.not_mem_nil, or_false] at h
  omega
theorem wr1_D {S : DS} {x : WI} (h : dO (wr1 S x) = false) : dO S = false ∧ dD (wr1 S x) = dW (dD S) x.1 x.2.1 x.2.2 := by
  by_cases ho : dO S = true
  · rw [wr1_off x ho, ho] at h
    exact Bool.noConfusion h
  · have ho' : dO S = false := by
      cases h1 : dO S
      · rfl
      · exact absurd h1 ho
    refine ⟨ho', ?_⟩
    by_cases hc : dC S = some 0
    · rw [wr1_due x ho' hc] at h
      exact Bool.noConfusion h
    · rw [wr1_on x ho' hc]
      rfl
theorem hd_D {S : DS} {s l N : Nat} (h : dO (wr1 S (hdW s l N)) = false) (hN : N < 2 ^ 32) : mB (dD (wr1 S (hdW s l N))) s = 8 ∧ bB (dD (wr1 S (hdW s l N))) s = N := by
  have e := (wr1_D h).2
  have e1 : ∀ i, i < 32 → dD (wr1 S (hdW s l N)) (128 * s + i) = gB0 (hdr 8 (l + 1) 0 N) i := fun i hi => by
    rw [e]
    exact dW_in hi
  have h0 : dD (wr1 S (hdW s l N)) (128 * s) = 0 := e1 0 (by decide)
  have h1 : dD (wr1 S (hdW s l N)) (128 * s + 1) = 8 := e1 1 (by decide)
  have h4 : dD (wr1 S (hdW s l N)) (128 * s + 4) = N / 2 ^ 24 % 256 := e1 4 (by decide)
  have h5 : dD (wr1 S (hdW s l N)) (128 * s + 5) = N / 2 ^ 16 % 256 := e1 5 (by decide)
  have h6 : dD (wr1 S (hdW s l N)) (128 * s + 6) = N / 2 ^ 8 % 256 := e1 6 (by decide)
  have h7 : dD (wr1 S (hdW s l N)) (128 * s + 7) = N / 2 ^ 0 % 256 := e1 7 (by decide)
  unfold mB bB
  rw [h0, h1, h4, h5, h6, h7]
  omega
theorem ne_true {b : Bool} (h : ¬ b = true) : b = false := by
  cases b
  · rfl
  · exact absurd rfl h
section S53
variable {n u : Nat} {I : Nat → Int32} {A : Nat → Nat → Int32} {J : Int64} {B : Nat → Int64} {mk sn L : Nat} {xs : Nat → Int32} {X : Nat → mC} {D : Nat → Nat} 
set_option maxRecDepth 100000 in
set_option maxHeartbeats 4000000 in
theorem l_64_2 {N m : Nat} (hc : I 28 = nI m) (hm : m ≤ 4) {Q : mO × mHp → Prop} : ∀ (z k : Nat) {A : Nat → Nat → Int32}, (k + z = m) → (∀ i, i < k → A 20 i = nI (N + i)) → (∀ A', Fr [20] A A' → (∀ i, i < m → A' 20 i = nI (N + i)) → Q (.inl none, hS n u I A' J B mk sn L xs X)) → mq 64 2 [some (.ref 54), some (.int (nI N)), some (.int (nI k))] [] (hS n u I A J B mk sn L xs X) Q := by
  intro z
  induction z with
  | zero =>
    intro k A hz hk kk
    refine x_il1 (pc := 2) rfl rfl ?_
    refine x_al1 (pc := 3) rfl rfl ?_
    refine g_54_5 (pc := 4) (v := nI m) rfl rfl hc ?_
    refine x_cmpN_ge (pc := 7) (t := 25) rfl rfl (by omega) (by omega) (fun c7 => ?_) (fun c7 => ?_)
    · refine x_ret (pc := 25) rfl rfl ?_
      exact kk A (Fr_refl _ _) (fun i hi => hk i (by omega))
    · omega
  | succ z ih =>
    intro k A hz hk kk
    refine x_il1 (pc := 2) rfl rfl ?_
    refine x_al1 (pc := 3) rfl rfl ?_
    refine g_54_5 (pc := 4) (v := nI m) rfl rfl hc ?_
    refine x_cmpN_ge (pc := 7) (t := 25) rfl rfl (by omega) (by omega) (fun c7 => ?_) (fun c7 => ?_)
    · omega
    · refine x_al1 (pc := 10) rfl rfl ?_
      refine g_54_0 (pc := 11) rfl rfl ?_
      refine x_il1 (pc := 14) rfl rfl ?_
      refine x_il1 (pc := 15) rfl rfl ?_
      refine x_il1 (pc := 16) rfl rfl ?_
      refine x_iaddN (pc := 17) (c := N + k) rfl rfl ?_
      refine as_55 (pc := 18) (q := k) rfl rfl (by omega) ?_
      refine x_iincN (pc := 19) (c := 1) (ml' := [some (.ref 54), some (.int (nI N)), some (.int (nI (k + 1)))]) rfl rfl rfl rfl ?_
      refine x_step (pc := 22) (pc' := 2) rfl rfl rfl rfl ?_
      refine ih (k + 1) (A := va_up A 20 (upd (A 20) k (nI (N + k)))) (by omega) (fun i hi => ?_) (fun A9 g9 h9 => kk A9 (Fr_cons (Fr_u (Fr_refl _ _) (by decide)) g9 (by decide)) h9)
      by_cases h5 : i = k
      · subst h5
        exact pk_us
      · exact (pk_un h5).trans (hk i (by omega))
set_option maxRecDepth 100000 in
set_option maxHeartbeats 4000000 in
theorem k_64_2 {N : Nat} {l : List R5} {p q : Int32} (hB : BT 2 I A l p q) (hl4 : l.length ≤ 4) {Q : mO × mHp → Prop} (kk : ∀ A', Fr [20] A A' → BT 2 I A' (nmb N l) p q → Q (.inl none, hS n u I A' J B mk sn L xs X)) : mq 64 0 [some (.ref 54), some (.int (nI N)), none] [] (hS n u I A J B mk sn L xs X) Q := by
  refine x_const (pc := 0) (pc' := 1) (.int (nI 0)) rfl rfl rfl rfl ?_
  refine x_is1 (pc := 1) (ml' := [some (.ref 54), some (.int (nI N)), some (.int (nI 0))]) rfl rfl ?_
  refine l_64_2 (N := N) hB.2.2.1 hl4 l.length 0 (Nat.zero_add _) (fun i hi => absurd hi (Nat.not_lt_zero i)) (fun A9 g9 h9 => kk A9 g9 ?_)
  refine ⟨hB.1, hB.2.1, by rw [nmb_len]; exact hB.2.2.1, fun k hk => ?_⟩
  rw [nmb_len] at hk
  rw [gR_nmb l N k hk]
  have h5 := hB.2.2.2 k hk
  refine ⟨h9 k hk, ?_, ?_, ?_, ?_⟩
  · rw [g9 _ (by decide)]
    exact h5.2.1
  · rw [g9 _ (by decide)]
    exact h5.2.2.1
  · rw [g9 _ (by decide)]
    exact h5.2.2.2.1
  · rw [g9 _ (by decide)]
    exact h5.2.2.2.2
set_option maxRecDepth 100000 in
set_option maxHeartbeats 4000000 in
theorem l_64_3 {N m : Nat} (hc : I 31 = nI m) (hm : m ≤ 4) {Q : mO × mHp → Prop} : ∀ (z k : Nat) {A : Nat → Nat → Int32}, (k + z = m) → (∀ i, i < k → A 25 i = nI (N + i)) → (∀ A', Fr [25] A A' → (∀ i, i < m → A' 25 i = nI (N + i)) → Q (.inl none, hS n u I A' J B mk sn L xs X)) → mq 64 2 [some (.ref 61), some (.int (nI N)), some (.int (nI k))] [] (hS n u I A J B mk sn L xs X) Q := by
  intro z
  induction z with
  | zero =>
    intro k A hz hk kk
    refine x_il1 (pc := 2) rfl rfl ?_
    refine x_al1 (pc := 3) rfl rfl ?_
    refine g_61_5 (pc := 4) (v := nI m) rfl rfl hc ?_
    refine x_cmpN_ge (pc := 7) (t := 25) rfl rfl (by omega) (by omega) (fun c7 => ?_) (fun c7 => ?_)
    · refine x_ret (pc := 25) rfl rfl ?_
      exact kk A (Fr_refl _ _) (fun i hi => hk i (by omega))
    · omega
  | succ z ih =>
    intro k A hz hk kk
    refine x_il1 (pc := 2) rfl rfl ?_
    refine x_al1 (pc := 3) rfl rfl ?_
    refine g_61_5 (pc := 4) (v := nI m) rfl rfl hc ?_
    refine x_cmpN_ge (pc := 7) (t := 25) rfl rfl (by omega) (by omega) (fun c7 => ?_) (fun c7 => ?_)
    · omega
    · refine x_al1 (pc := 10) rfl rfl ?_
      refine g_61_0 (pc := 11) rfl rfl ?_
      refine x_il1 (pc := 14) rfl rfl ?_
      refine x_il1 (pc := 15) rfl rfl ?_
      refine x_il1 (pc := 16) rfl rfl ?_
      refine x_iaddN (pc := 17) (c := N + k) rfl rfl ?_
      refine as_62 (pc := 18) (q := k) rfl rfl (by omega) ?_
      refine x_iincN (pc := 19) (c := 1) (ml' := [some (.ref 61), some (.int (nI N)), some (.int (nI (k + 1)))]) rfl rfl rfl rfl ?_
      refine x_step (pc := 22) (pc' := 2) rfl rfl rfl rfl ?_
      refine ih (k + 1) (A := va_up A 25 (upd (A 25) k (nI (N + k)))) (by omega) (fun i hi => ?_) (fun A9 g9 h9 => kk A9 (Fr_cons (Fr_u (Fr_refl _ _) (by decide)) g9 (by decide)) h9)
      by_cases h5 : i = k
      · subst h5
        exact pk_us
      · exact (pk_un h5).trans (hk i (by omega))
set_option maxRecDepth 100000 in
set_option maxHeartbeats 4000000 in
theorem k_64_3 {N : Nat} {l : List R5} {p q : Int32} (hB : BT 3 I A l p q) (hl4 : l.length ≤ 4) {Q : mO × mHp → Prop} (kk : ∀ A', Fr [25] A A' → BT 3 I A' (nmb N l) p q → Q (.inl none, hS n u I A' J B mk sn L xs X)) : mq 64 0 [some (.ref 61), some (.int (nI N)), none] [] (hS n u I A J B mk sn L xs X) Q := by
  refine x_const (pc := 0) (pc' := 1) (.int (nI 0)) rfl rfl rfl rfl ?_
  refine x_is1 (pc := 1) (ml' := [some (.ref 61), some (.int (nI N)), some (.int (nI 0))]) rfl rfl ?_
  refine l_64_3 (N := N) hB.2.2.1 hl4 l.length 0 (Nat.zero_add _) (fun i hi => absurd hi (Nat.not_lt_zero i)) (fun A9 g9 h9 => kk A9 g9 ?_)
  refine ⟨hB.1, hB.2.1, by rw [nmb_len]; exact hB.2.2.1, fun k hk => ?_⟩
  rw [nmb_len] at hk
  rw [gR_nmb l N k hk]
  have h5 := hB.2.2.2 k hk
  refine ⟨h9 k hk, ?_, ?_, ?_, ?_⟩
  · rw [g9 _ (by decide)]
    exact h5.2.1
  · rw [g9 _ (by decide)]
    exact h5.2.2.1
  · rw [g9 _ (by decide)]
    exact h5.2.2.2.1
  · rw [g9 _ (by decide)]
    exact h5.2.2.2.2
set_option maxRecDepth 100000 in
set_option maxHeartbeats 4000000 in
theorem k_34e_0 {cn s : Nat} (hcn : cn < 16) (hc : I 40 = nI cn) {Q : mO × mHp → Prop} (kk : Q (.inl none, hS n u (va_up I 40 (nI (cn + 1))) (va_up A 30 (upd (A 30) cn (nI s))) J B mk sn L xs X)) : mq 34 0 [some (.ref 13), some (.int (nI cn)), some (.int (nI s)), none] [] (hS n u I A J B mk sn L xs X) Q := by
  refine x_al1 (pc := 0) rfl rfl ?_
  refine g_13_5 (pc := 1) (v := nI cn) rfl rfl hc ?_
  refine x_const (pc := 4) (pc' := 6) (.int (nI 16)) rfl rfl rfl rfl ?_
  refine x_cmpN_ge (pc := 6) (t := 21) rfl rfl (by omega) (by omega) (fun c6 => ?_) (fun c6 => ?_)
  · omega
  · refine x_il1 (pc := 9) rfl rfl ?_
    refine x_ifN_lt (pc := 10) (t := 21) rfl rfl (by omega) ?_
    refine x_il1 (pc := 13) rfl rfl ?_
    refine x_al1 (pc := 14) rfl rfl ?_
    refine g_13_5 (pc := 15) (v := nI cn) rfl rfl hc ?_
    refine x_cmpN_le (pc := 18) (t := 22) rfl rfl (by omega) (by omega) (fun c18 => ?_) (fun c18 => ?_)
    · refine x_al1 (pc := 22) rfl rfl ?_
      refine g_13_5 (pc := 23) (v := nI cn) rfl rfl hc ?_
      refine x_is1 (pc := 26) (ml' := [some (.ref 13), some (.int (nI cn)), some (.int (nI s)), some (.int (nI cn))]) rfl rfl ?_
      refine x_il1 (pc := 27) rfl rfl ?_
      refine x_il1 (pc := 28) rfl rfl ?_
      refine x_cmpN_le (pc := 29) (t := 52) rfl rfl (by omega) (by omega) (fun c29 => ?_) (fun c29 => ?_)
      · refine x_al1 (pc := 52) rfl rfl ?_
        refine g_13_1 (pc := 53) rfl rfl ?_
        refine x_il1 (pc := 56) rfl rfl ?_
        refine x_il1 (pc := 57) rfl rfl ?_
        refine as_14 (pc := 58) (q := cn) rfl rfl (by omega) ?_
        refine x_al1 (pc := 59) rfl rfl ?_
        refine x_step (pc := 60) (pc' := 61) (st' := [.ref 13, .ref 13]) rfl rfl rfl rfl ?_
        refine g_13_5 (pc := 61) (v := nI cn) rfl rfl hc ?_
        refine x_const (pc := 64) (pc' := 65) (.int (nI 1)) rfl rfl rfl rfl ?_
        refine x_iaddN (pc := 65) (c := cn + 1) rfl rfl ?_
        refine p_13_5 (pc := 66) rfl rfl ?_
        refine x_ret (pc := 69) rfl rfl ?_
        exact kk
      · omega
    · omega
set_option maxRecDepth 100000 in
set_option maxHeartbeats 4000000 in
theorem k_46_0_0 {p m : Nat} {q o : Int32} (hp : I 20 = nI p) (hp8 : p < 8) (hq : I 21 = q) (hm : I 22 = nI m) {Q : mO × mHp → Prop} (kk : ∀ A', Fr [31, 32, 33] A A' → A' 31 = upd (A 31) p q → A' 32 = upd (A 32) p (nI m) → A' 33 = upd (A 33) p o → Q (.inl none, hS n u I A' J B mk sn L xs X)) : mq 46 0 [some (.ref 13), some (.ref 5), some (.int o), none] [] (hS n u I A J B mk sn L xs X) Q := by
  refine x_al1 (pc := 0) rfl rfl ?_
  refine g_5_1 (pc := 1) (v := nI p) rfl rfl hp ?_
  refine x_is1 (pc := 4) (ml' := [some (.ref 13), some (.ref 5), some (.int o), some (.int (nI p))]) rfl rfl ?_
  refine x_il1 (pc := 5) rfl rfl ?_
  refine x_ifN_lt (pc := 6) (t := 45) rfl rfl (by omega) ?_
  refine x_il1 (pc := 9) rfl rfl ?_
  refine x_const (pc := 10) (pc' := 12) (.int (nI 8)) rfl rfl rfl rfl ?_
  refine x_cmpN_ge (pc := 12) (t := 45) rfl rfl (by omega) (by omega) (fun c12 => ?_) (fun c12 => ?_)
  · omega
  · refine x_al1 (pc := 15) rfl rfl ?_
    refine g_13_2 (pc := 16) rfl rfl ?_
    refine x_il1 (pc := 19) rfl rfl ?_
    refine x_al1 (pc := 20) rfl rfl ?_
    refine g_5_2 (pc := 21) (v := q) rfl rfl hq ?_
    refine as_15 (pc := 24) (q := p) rfl rfl (by omega) ?_
    refine x_al1 (pc := 25) rfl rfl ?_
    refine g_13_3 (pc := 26) rfl rfl ?_
    refine x_il1 (pc := 29) rfl rfl ?_
    refine x_al1 (pc := 30) rfl rfl ?_
    refine g_5_0 (pc := 31) rfl rfl ?_
    refine g_6_5 (pc := 34) (v := nI m) rfl rfl hm ?_
    refine as_16 (pc := 37) (q := p) rfl rfl (by omega) ?_
    refine x_al1 (pc := 38) rfl rfl ?_
    refine g_13_4 (pc := 39) rfl rfl ?_
    refine x_il1 (pc := 42) rfl rfl ?_
    refine x_il1 (pc := 43) rfl rfl ?_
    refine as_17 (pc := 44) (q := p) rfl rfl (by omega) ?_
    refine x_ret (pc := 45) rfl rfl ?_
    exact kk _ (Fr_u (Fr_u (Fr_u (Fr_refl _ _) (by decide)) (by decide)) (by decide)) rfl rfl rfl
set_option maxRecDepth 100000 in
set_option maxHeartbeats 4000000 in
theorem k_46n_0_0 {p : Nat} {o : Int32} (hp : I 20 = nI p) (hp8 : 8 ≤ p ∧ p < 256) {Q : mO × mHp → Prop} (kk : Q (.inl none, hS n u I A J B mk sn L xs X)) : mq 46 0 [some (.ref 13), some (.ref 5), some (.int o), none] [] (hS n u I A J B mk sn L xs X) Q := by
  refine x_al1 (pc := 0) rfl rfl ?_
  refine g_5_1 (pc := 1) (v := nI p) rfl rfl hp ?_
  refine x_is1 (pc := 4) (ml' := [some (.ref 13), some (.ref 5), some (.int o), some (.int (nI p))]) rfl rfl ?_
  refine x_il1 (pc := 5) rfl rfl ?_
  refine x_ifN_lt (pc := 6) (t := 45) rfl rfl (by omega) ?_
  refine x_il1 (pc := 9) rfl rfl ?_
  refine x_const (pc := 10) (pc' := 12) (.int (nI 8)) rfl rfl rfl rfl ?_
  refine x_cmpN_ge (pc := 12) (t := 45) rfl rfl (by omega) (by omega) (fun c12 => ?_) (fun c12 => ?_)
  · refine x_ret (pc := 45) rfl rfl ?_
    exact kk
  · omega
set_option maxRecDepth 100000 in
set_option maxHeartbeats 4000000 in
theorem k_46_0_2 {p m : Nat} {q o : Int32} (hp : I 26 = nI p) (hp8 : p < 8) (hq : I 27 = q) (hm : I 28 = nI m) {Q : mO × mHp → Prop} (kk : ∀ A', Fr [31, 32, 33] A A' → A' 31 = upd (A 31) p q → A' 32 = upd (A 32) p (nI m) → A' 33 = upd (A 33) p o → Q (.inl none, hS n u I A' J B mk sn L xs X)) : mq 46 0 [some (.ref 13), some (.ref 53), some (.int o), none] [] (hS n u I A J B mk sn L xs X) Q := by
  refine x_al1 (pc := 0) rfl rfl ?_
  refine g_53_1 (pc := 1) (v := nI p) rfl rfl hp ?_
  refine x_is1 (pc := 4) (ml' := [some (.ref 13), some (.ref 53), some (.int o), some (.int (nI p))]) rfl rfl ?_
  refine x_il1 (pc := 5) rfl rfl ?_
  refine x_ifN_lt (pc := 6) (t := 45) rfl rfl (by omega) ?_
  refine x_il1 (pc := 9) rfl rfl ?_
  refine x_const (pc := 10) (pc' := 12) (.int (nI 8)) rfl rfl rfl rfl ?_
  refine x_cmpN_ge (pc := 12) (t := 45) rfl rfl (by omega) (by omega) (fun c12 => ?_) (fun c12 => ?_)
  · omega
  · refine x_al1 (pc := 15) rfl rfl ?_
    refine g_13_2 (pc := 16) rfl rfl ?_
    refine x_il1 (pc := 19) rfl rfl ?_
    refine x_al1 (pc := 20) rfl rfl ?_
    refine g_53_2 (pc := 21) (v := q) rfl rfl hq ?_
    refine as_15 (pc := 24) (q := p) rfl rfl (by omega) ?_
    refine x_al1 (pc := 25) rfl rfl ?_
    refine g_13_3 (pc := 26) rfl rfl ?_
    refine x_il1 (pc := 29) rfl rfl ?_
    refine x_al1 (pc := 30) rfl rfl ?_
    refine g_53_0 (pc := 31) rfl rfl ?_
    refine g_54_5 (pc := 34) (v := nI m) rfl rfl hm ?_
    refine as_16 (pc := 37) (q := p) rfl rfl (by omega) ?_
    refine x_al1 (pc := 38) rfl rfl ?_
    refine g_13_4 (pc := 39) rfl rfl ?_
    refine x_il1 (pc := 42) rfl rfl ?_
    refine x_il1 (pc := 43) rfl rfl ?_
    refine as_17 (pc := 44) (q := p) rfl rfl (by omega) ?_
    refine x_ret (pc := 45) rfl rfl ?_
    exact kk _ (Fr_u (Fr_u (Fr_u (Fr_refl _ _) (by decide)) (by decide)) (by decide)) rfl rfl rfl
set_option maxRecDepth 100000 in
set_option maxHeartbeats 4000000 in
theorem k_46n_0_2 {p : Nat} {o : Int32} (hp : I 26 = nI p) (hp8 : 8 ≤ p ∧ p < 256) {Q : mO × mHp → Prop} (kk : Q (.inl none, hS n u I A J B mk sn L xs X)) : mq 46 0 [some (.ref 13), some (.ref 53), some (.int o), none] [] (hS n u I A J B mk sn L xs X) Q := by
  refine x_al1 (pc := 0) rfl rfl ?_
  refine g_53_1 (pc := 1) (v := nI p) rfl rfl hp ?_
  refine x_is1 (pc := 4) (ml' := [some (.ref 13), some (.ref 53), some (.int o), some (.int (nI p))]) rfl rfl ?_
  refine x_il1 (pc := 5) rfl rfl ?_
  refine x_ifN_lt (pc := 6) (t := 45) rfl rfl (by omega) ?_
  refine x_il1 (pc := 9) rfl rfl ?_
  refine x_const (pc := 10) (pc' := 12) (.int (nI 8)) rfl rfl rfl rfl ?_
  refine x_cmpN_ge (pc := 12) (t := 45) rfl rfl (by omega) (by omega) (fun c12 => ?_) (fun c12 => ?_)
  · refine x_ret (pc := 45) rfl rfl ?_
    exact kk
  · omega
set_option maxRecDepth 100000 in
set_option maxHeartbeats 4000000 in
theorem k_46_0_3 {p m : Nat} {q o : Int32} (hp : I 29 = nI p) (hp8 : p < 8) (hq : I 30 = q) (hm : I 31 = nI m) {Q : mO × mHp → Prop} (kk : ∀ A', Fr [31, 32, 33] A A' → A' 31 = upd (A 31) p q → A' 32 = upd (A 32) p (nI m) → A' 33 = upd (A 33) p o → Q (.inl none, hS n u I A' J B mk sn L xs X)) : mq 46 0 [some (.ref 13), some (.ref 60), some (.int o), none] [] (hS n u I A J B mk sn L xs X) Q := by
  refine x_al1 (pc := 0) rfl rfl ?_
  refine g_60_1 (pc := 1) (v := nI p) rfl rfl hp ?_
  refine x_is1 (pc := 4) (ml' := [some (.ref 13), some (.ref 60), some (.int o), some (.int (nI p))]) rfl rfl ?_
  refine x_il1 (pc := 5) rfl rfl ?_
  refine x_ifN_lt (pc := 6) (t := 45) rfl rfl (by omega) ?_
  refine x_il1 (pc := 9) rfl rfl ?_
  refine x_const (pc := 10) (pc' := 12) (.int (nI 8)) rfl rfl rfl rfl ?_
  refine x_cmpN_ge (pc := 12) (t := 45) rfl rfl (by omega) (by omega) (fun c12 => ?_) (fun c12 => ?_)
  · omega
  · refine x_al1 (pc := 15) rfl rfl ?_
    refine g_13_2 (pc := 16) rfl rfl ?_
    refine x_il1 (pc := 19) rfl rfl ?_
    refine x_al1 (pc := 20) rfl rfl ?_
    refine g_60_2 (pc := 21) (v := q) rfl rfl hq ?_
    refine as_15 (pc := 24) (q := p) rfl rfl (by omega) ?_
    refine x_al1 (pc := 25) rfl rfl ?_
    refine g_13_3 (pc := 26) rfl rfl ?_
    refine x_il1 (pc := 29) rfl rfl ?_
    refine x_al1 (pc := 30) rfl rfl ?_
    refine g_60_0 (pc := 31) rfl rfl ?_
    refine g_61_5 (pc := 34) (v := nI m) rfl rfl hm ?_
    refine as_16 (pc := 37) (q := p) rfl rfl (by omega) ?_
    refine x_al1 (pc := 38) rfl rfl ?_
    refine g_13_4 (pc := 39) rfl rfl ?_
    refine x_il1 (pc := 42) rfl rfl ?_
    refine x_il1 (pc := 43) rfl rfl ?_
    refine as_17 (pc := 44) (q := p) rfl rfl (by omega) ?_
    refine x_ret (pc := 45) rfl rfl ?_
    exact kk _ (Fr_u (Fr_u (Fr_u (Fr_refl _ _) (by decide)) (by decide)) (by decide)) rfl rfl rfl
set_option maxRecDepth 100000 in
set_option maxHeartbeats 4000000 in
theorem k_46n_0_3 {p : Nat} {o : Int32} (hp : I 29 = nI p) (hp8 : 8 ≤ p ∧ p < 256) {Q : mO × mHp → Prop} (kk : Q (.inl none, hS n u I A J B mk sn L xs X)) : mq 46 0 [some (.ref 13), some (.ref 60), some (.int o), none] [] (hS n u I A J B mk sn L xs X) Q := by
  refine x_al1 (pc := 0) rfl rfl ?_
  refine g_60_1 (pc := 1) (v := nI p) rfl rfl hp ?_
  refine x_is1 (pc := 4) (ml' := [some (.ref 13), some (.ref 60), some (.int o), some (.int (nI p))]) rfl rfl ?_
  refine x_il1 (pc := 5) rfl rfl ?_
  refine x_ifN_lt (pc := 6) (t := 45) rfl rfl (by omega) ?_
  refine x_il1 (pc := 9) rfl rfl ?_
  refine x_const (pc := 10) (pc' := 12) (.int (nI 8)) rfl rfl rfl rfl ?_
  refine x_cmpN_ge (pc := 12) (t := 45) rfl rfl (by omega) (by omega) (fun c12 => ?_) (fun c12 => ?_)
  · refine x_ret (pc := 45) rfl rfl ?_
    exact kk
  · omega
set_option maxRecDepth 100000 in
set_option maxHeartbeats 4000000 in
theorem k_65a_0_2 {cn N : Nat} {f : Nat → Nat} {l : List R5} {p q : Int32} {S : DS} (hD : kD mk S I A) (ho : dO S = false) (hcn : cn ≤ 16) (hc : I 40 = nI cn) (hf : ∀ k, k < cn → f k < 16) (hsl : ∀ j, j < cn → A 30 j = nI (f j)) (hN : I 42 = nI N) (hNb : N + 4 < 2 ^ 31) (hB : BT 2 I A l p q) (hl1 : 1 ≤ l.length) (hl4 : l.length ≤ 4) (hp : 0 < cn) (hfit : mB (dD S) (f (cn - 1)) + (eBt (nI (bB (dD S) (f (cn - 1)))) p q l).length ≤ 128) {Q : mO × mHp → Prop} (kk : ∀ I' A', Fr [14] I I' → Fr [3] A A' → Q (.inl (some (.int (nI (f (cn - 1))))), hS n u I' A' J B mk sn L xs X)) : mq 65 0 [some (.ref 1), some (.ref 13), some (.ref 53), none] [] (hS n u I A J B mk sn L xs X) Q := by
  refine x_al1 (pc := 0) rfl rfl ?_
  refine g_13_5 (pc := 1) (v := nI cn) rfl rfl hc ?_
  refine x_ifN_le (pc := 4) (t := 46) rfl rfl (by omega) (fun c4 => ?_) (fun c4 => ?_)
  · omega
  · refine x_al1 (pc := 7) rfl rfl ?_
    refine x_al1 (pc := 8) rfl rfl ?_
    refine x_k (pc := 9) rfl rfl rfl ⟨Nat.le_of_ble_eq_true rfl, Nat.le_of_ble_eq_true rfl, Nat.le_of_ble_eq_true rfl⟩ rfl (k_51_0 (I := I) (A := A) hcn hc hsl (by omega) ?_)
    show mq 65 12 [some (.ref 1), some (.ref 13), some (.ref 53), none] [.int (nI (f (cn - 1))), .ref 1] (hS n u I A J B mk sn L xs X) _
    refine x_al1 (pc := 12) rfl rfl ?_
    refine x_k (pc := 13) rfl rfl rfl ⟨Nat.le_of_ble_eq_true rfl, Nat.le_of_ble_eq_true rfl, Nat.le_of_ble_eq_true rfl⟩ rfl (k_66_2 (I := I) (A := A) (D := dD S) (l := l) (p := p) (q := q) hD.2.1 (hf _ (by omega)) hl1 hl4 hB (fun I1 A1 f1 g1 h1 => ?_))
    show mq 65 16 [some (.ref 1), some (.ref 13), some (.ref 53), none] [] (hS n u I1 A1 J B mk sn L xs X) _
    refine x_al1 (pc := 16) rfl rfl ?_
    refine g_1_0 (pc := 17) rfl rfl ?_
    refine x_al1 (pc := 20) rfl rfl ?_
    refine x_k (pc := 21) rfl rfl rfl ⟨Nat.le_of_ble_eq_true rfl, Nat.le_of_ble_eq_true rfl, Nat.le_of_ble_eq_true rfl⟩ rfl (k_51_0 (I := I1) (A := A1) hcn ((f1 40 (by decide)).trans hc) (fun j hj => by rw [g1 30 (by decide)]; exact hsl j hj) (by omega) ?_)
    show mq 65 24 [some (.ref 1), some (.ref 13), some (.ref 53), none] [.int (nI (f (cn - 1))), .ref 2] (hS n u I1 A1 J B mk sn L xs X) _
    refine x_k (pc := 24) rfl rfl rfl ⟨Nat.le_of_ble_eq_true rfl, Nat.le_of_ble_eq_true rfl, Nat.le_of_ble_eq_true rfl⟩ rfl (mq_k (c_37 (I := I1) (A := A1) (D := dD S) (by rw [g1 0 (by decide)]; exact hD.2.1) (hf _ (by omega))) ?_)
    show mq 65 27 [some (.ref 1), some (.ref 13), some (.ref 53), none] [.int (nI (mB (dD S) (f (cn - 1))))] (hS n u I1 A1 J B mk sn L xs X) _
    refine x_al1 (pc := 27) rfl rfl ?_
    refine g_1_7 (pc := 28) rfl rfl ?_
    refine g_49_1 (pc := 31) (v := nI ((eBt (nI (bB (dD S) (f (cn - 1)))) p q l).length)) rfl rfl h1.1 ?_
    refine x_iaddN (pc := 34) (c := (mB (dD S) (f (cn - 1))) + ((eBt (nI (bB (dD S) (f (cn - 1)))) p q l).length)) rfl rfl ?_
    refine x_const (pc := 35) (pc' := 38) (.int (nI 128)) rfl rfl rfl rfl ?_
    have hel := eBt_len (nI (bB (dD S) (f (cn - 1)))) p q l
    have hmb := mB_lt hD.2.1.2.1 (f (cn - 1))
    refine x_cmpN_gt (pc := 38) (t := 46) rfl rfl (by omega) (by omega) (fun c38 => ?_) (fun c38 => ?_)
    · omega
    · refine x_al1 (pc := 41) rfl rfl ?_
      refine x_k (pc := 42) rfl rfl rfl ⟨Nat.le_of_ble_eq_true rfl, Nat.le_of_ble_eq_true rfl, Nat.le_of_ble_eq_true rfl⟩ rfl (k_51_0 (I := I1) (A := A1) hcn ((f1 40 (by decide)).trans hc) (fun j hj => by rw [g1 30 (by decide)]; exact hsl j hj) (by omega) ?_)
      show mq 65 45 [some (.ref 1), some (.ref 13), some (.ref 53), none] [.int (nI (f (cn - 1)))] (hS n u I1 A1 J B mk sn L xs X) _
      refine x_ret (pc := 45) rfl rfl ?_
      exact kk _ _ (Fr_cons (Fr_refl _ _) f1 (by decide)) (Fr_cons (Fr_refl _ _) g1 (by decide))
set_option maxRecDepth 100000 in
set_option maxHeartbeats 4000000 in
theorem k_65c_0_2 {cn N : Nat} {f : Nat → Nat} {l : List R5} {p q : Int32} {S : DS} (hD : kD mk S I A) (ho : dO S = false) (hcn : cn ≤ 16) (hc : I 40 = nI cn) (hf : ∀ k, k < cn → f k < 16) (hsl : ∀ j, j < cn → A 30 j = nI (f j)) (hN : I 42 = nI N) (hNb : N + 4 < 2 ^ 31) (hB : BT 2 I A l p q) (hl1 : 1 ≤ l.length) (hl4 : l.length ≤ 4) (hnf : cn = 0 ∨ 128 < mB (dD S) (f (cn - 1)) + (eBt (nI (bB (dD S) (f (cn - 1)))) p q l).length) (hfr : frS (dD S) 16 0 = -1) {Q : mO × mHp → Prop} (kk : ∀ I' A', Fr [14] I I' → Fr [3] A A' → Q (.inl (some (.int (-1))), hS n u I' A' J B mk sn L xs X)) : mq 65 0 [some (.ref 1), some (.ref 13), some (.ref 53), none] [] (hS n u I A J B mk sn L xs X) Q := by
  refine x_al1 (pc := 0) rfl rfl ?_
  refine g_13_5 (pc := 1) (v := nI cn) rfl rfl hc ?_
  refine x_ifN_le (pc := 4) (t := 46) rfl rfl (by omega) (fun c4 => ?_) (fun c4 => ?_)
  · refine x_al1 (pc := 46) rfl rfl ?_
    refine g_1_0 (pc := 47) rfl rfl ?_
    refine x_k (pc := 50) rfl rfl rfl ⟨Nat.le_of_ble_eq_true rfl, Nat.le_of_ble_eq_true rfl, Nat.le_of_ble_eq_true rfl⟩ rfl (mq_k (c_71 (I := I) (A := A) (D := dD S) hD.2.1) ?_)
    show mq 65 53 [some (.ref 1), some (.ref 13), some (.ref 53), none] [.int (frS (dD S) 16 0)] (hS n u I A J B mk sn L xs X) _
    refine x_top (y := (-1)) (hfr) ?_
    refine x_is1 (pc := 53) (ml' := [some (.ref 1), some (.ref 13), some (.ref 53), some (.int (-1))]) rfl rfl ?_
    refine x_il1 (pc := 54) rfl rfl ?_
    refine x_if_lt (pc := 55) (t := 103) rfl rfl rfl (fun _ => ?_) (fun c => absurd (by decide) c)
    refine x_il1 (pc := 103) rfl rfl ?_
    refine x_ret (pc := 104) rfl rfl ?_
    exact kk _ _ (Fr_refl _ _) (Fr_refl _ _)
  · refine x_al1 (pc := 7) rfl rfl ?_
    refine x_al1 (pc := 8) rfl rfl ?_
    refine x_k (pc := 9) rfl rfl rfl ⟨Nat.le_of_ble_eq_true rfl, Nat.le_of_ble_eq_true rfl, Nat.le_of_ble_eq_true rfl⟩ rfl (k_51_0 (I := I) (A := A) hcn hc hsl (by omega) ?_)
    show mq 65 12 [some (.ref 1), some (.ref 13), some (.ref 53), none] [.int (nI (f (cn - 1))), .ref 1] (hS n u I A J B mk sn L xs X) _
    refine x_al1 (pc := 12) rfl rfl ?_
    refine x_k (pc := 13) rfl rfl rfl ⟨Nat.le_of_ble_eq_true rfl, Nat.le_of_ble_eq_true rfl, Nat.le_of_ble_eq_true rfl⟩ rfl (k_66_2 (I := I) (A := A) (D := dD S) (l := l) (p := p) (q := q) hD.2.1 (hf _ (by omega)) hl1 hl4 hB (fun I1 A1 f1 g1 h1 => ?_))
    show mq 65 16 [some (.ref 1), some (.ref 13), some (.ref 53), none] [] (hS n u I1 A1 J B mk sn L xs X) _
    refine x_al1 (pc := 16) rfl rfl ?_
    refine g_1_0 (pc := 17) rfl rfl ?_
    refine x_al1 (pc := 20) rfl rfl ?_
    refine x_k (pc := 21) rfl rfl rfl ⟨Nat.le_of_ble_eq_true rfl, Nat.le_of_ble_eq_true rfl, Nat.le_of_ble_eq_true rfl⟩ rfl (k_51_0 (I := I1) (A := A1) hcn ((f1 40 (by decide)).trans hc) (fun j hj => by rw [g1 30 (by decide)]; exact hsl j hj) (by omega) ?_)
    show mq 65 24 [some (.ref 1), some (.ref 13), some (.ref 53), none] [.int (nI (f (cn - 1))), .ref 2] (hS n u I1 A1 J B mk sn L xs X) _
    refine x_k (pc := 24) rfl rfl rfl ⟨Nat.le_of_ble_eq_true rfl, Nat.le_of_ble_eq_true rfl, Nat.le_of_ble_eq_true rfl⟩ rfl (mq_k (c_37 (I := I1) (A := A1) (D := dD S) (by rw [g1 0 (by decide)]; exact hD.2.1) (hf _ (by omega))) ?_)
    show mq 65 27 [some (.ref 1), some (.ref 13), some (.ref 53), none] [.int (nI (mB (dD S) (f (cn - 1))))] (hS n u I1 A1 J B mk sn L xs X) _
    refine x_al1 (pc := 27) rfl rfl ?_
    refine g_1_7 (pc := 28) rfl rfl ?_
    refine g_49_1 (pc := 31) (v := nI ((eBt (nI (bB (dD S) (f (cn - 1)))) p q l).length)) rfl rfl h1.1 ?_
    refine x_iaddN (pc := 34) (c := (mB (dD S) (f (cn - 1))) + ((eBt (nI (bB (dD S) (f (cn - 1)))) p q l).length)) rfl rfl ?_
    refine x_const (pc := 35) (pc' := 38) (.int (nI 128)) rfl rfl rfl rfl ?_
    have hel := eBt_len (nI (bB (dD S) (f (cn - 1)))) p q l
    have hmb := mB_lt hD.2.1.2.1 (f (cn - 1))
    refine x_cmpN_gt (pc := 38) (t := 46) rfl rfl (by omega) (by omega) (fun c38 => ?_) (fun c38 => ?_)
    · refine x_al1 (pc := 46) rfl rfl ?_
      refine g_1_0 (pc := 47) rfl rfl ?_
      refine x_k (pc := 50) rfl rfl rfl ⟨Nat.le_of_ble_eq_true rfl, Nat.le_of_ble_eq_true rfl, Nat.le_of_ble_eq_true rfl⟩ rfl (mq_k (c_71 (I := I1) (A := A1) (D := dD S) (by rw [g1 0 (by decide)]; exact hD.2.1)) ?_)
      show mq 65 53 [some (.ref 1), some (.ref 13), some (.ref 53), none] [.int (frS (dD S) 16 0)] (hS n u I1 A1 J B mk sn L xs X) _
      refine x_top (y := (-1)) (hfr) ?_
      refine x_is1 (pc := 53) (ml' := [some (.ref 1), some (.ref 13), some (.ref 53), some (.int (-1))]) rfl rfl ?_
      refine x_il1 (pc := 54) rfl rfl ?_
      refine x_if_lt (pc := 55) (t := 103) rfl rfl rfl (fun _ => ?_) (fun c => absurd (by decide) c)
      refine x_il1 (pc := 103) rfl rfl ?_
      refine x_ret (pc := 104) rfl rfl ?_
      exact kk _ _ (Fr_cons (Fr_refl _ _) f1 (by decide)) (Fr_cons (Fr_refl _ _) g1 (by decide))
    · omega
set_option maxRecDepth 100000 in
set_option maxHeartbeats 4000000 in
theorem k_65b_0_2 {cn N : Nat} {f : Nat → Nat} {l : List R5} {p q : Int32} {S : DS} (hD : kD mk S I A) (ho : dO S = false) (hcn : cn ≤ 16) (hc : I 40 = nI cn) (hf : ∀ k, k < cn → f k < 16) (hsl : ∀ j, j < cn → A 30 j = nI (f j)) (hN : I 42 = nI N) (hNb : N + 4 < 2 ^ 31) (hB : BT 2 I A l p q) (hl1 : 1 ≤ l.length) (hl4 : l.length ≤ 4) (hnf : cn = 0 ∨ 128 < mB (dD S) (f (cn - 1)) + (eBt (nI (bB (dD S) (f (cn - 1)))) p q l).length) {s : Nat} (hs : s < 16) (hfr : frS (dD S) 16 0 = nI s) (hc16 : cn < 16) (hmk : mks mk sn) (hn : 77 ≤ n ∧ n < 10000) (hu : u + 6 < 1000000) {Q : mO × mHp → Prop} (kk : dO (wr1 S (hdW s 0 N)) = false → ∀ I' A', Fr [2, 3, 14, 15, 40] I I' → Fr [0, 3, 4, 30] A A' → kD mk (wr1 S (hdW s 0 N)) I' A' → I' 40 = nI (cn + 1) → A' 30 = upd (A 30) cn (nI s) → Q (.inl (some (.int (nI s))), hS n u I' A' J B mk sn L xs X)) (kx : dO (wr1 S (hdW s 0 N)) = true → ∀ I' A', Up 60 I I' → Up 50 A A' → kD mk (wr1 S (hdW s 0 N)) I' A' → Q (.inr n, hS (n + 1) (u + 6) I' A' J B mk sn L xs (va_up X n (.inr (9, []))))) : mq 65 0 [some (.ref 1), some (.ref 13), some (.ref 53), none] [] (hS n u I A J B mk sn L xs X) Q := by
  have ev : wr1 S (wi (128 * s) 32 (fun i => gB0 (hdr 8 1 0 N) (0 + i))) = wr1 S (hdW s 0 N) := wr1_ext (fun i _ => by rw [Nat.zero_add])
  refine x_al1 (pc := 0) rfl rfl ?_
  refine g_13_5 (pc := 1) (v := nI cn) rfl rfl hc ?_
  refine x_ifN_le (pc := 4) (t := 46) rfl rfl (by omega) (fun c4 => ?_) (fun c4 => ?_)
  · refine x_al1 (pc := 46) rfl rfl ?_
    refine g_1_0 (pc := 47) rfl rfl ?_
    refine x_k (pc := 50) rfl rfl rfl ⟨Nat.le_of_ble_eq_true rfl, Nat.le_of_ble_eq_true rfl, Nat.le_of_ble_eq_true rfl⟩ rfl (mq_k (c_71 (I := I) (A := A) (D := dD S) hD.2.1) ?_)
    show mq 65 53 [some (.ref 1), some (.ref 13), some (.ref 53), none] [.int (frS (dD S) 16 0)] (hS n u I A J B mk sn L xs X) _
    refine x_top (y := nI s) (hfr) ?_
    refine x_is1 (pc := 53) (ml' := [some (.ref 1), some (.ref 13), some (.ref 53), some (.int (nI s))]) rfl rfl ?_
    refine x_il1 (pc := 54) rfl rfl ?_
    refine x_ifN_lt (pc := 55) (t := 103) rfl rfl (by omega) ?_
    refine x_al1 (pc := 58) rfl rfl ?_
    refine g_1_8 (pc := 59) rfl rfl ?_
    refine x_const (pc := 62) (pc' := 64) (.int (nI 8)) rfl rfl rfl rfl ?_
    refine x_al1 (pc := 64) rfl rfl ?_
    refine g_13_0 (pc := 65) rfl rfl ?_
    refine x_const (pc := 68) (pc' := 69) (.int (nI 1)) rfl rfl rfl rfl ?_
    refine x_iaddN (pc := 69) (c := 1) rfl rfl ?_
    refine x_const (pc := 70) (pc' := 71) (.int (nI 0)) rfl rfl rfl rfl ?_
    refine x_al1 (pc := 71) rfl rfl ?_
    refine g_13_7 (pc := 72) (v := nI N) rfl rfl hN ?_
    refine x_k (pc := 75) rfl rfl rfl ⟨Nat.le_of_ble_eq_true rfl, Nat.le_of_ble_eq_true rfl, Nat.le_of_ble_eq_true rfl⟩ rfl (k_72_51 (I := I) (A := A) (m := 8) (o := 1) (g := 0) (b := N) (by decide) (by omega) (fun I2 A2 f2 g2 h2 => ?_))
    show mq 65 78 [some (.ref 1), some (.ref 13), some (.ref 53), some (.int (nI s))] [] (hS n u I2 A2 J B mk sn L xs X) _
    refine x_al1 (pc := 78) rfl rfl ?_
    refine x_il1 (pc := 79) rfl rfl ?_
    refine x_const (pc := 80) (pc' := 83) (.int (nI 128)) rfl rfl rfl rfl ?_
    refine x_imulV (pc := 83) (v := nI (128 * s)) rfl ((pk_mul _ _).trans (congrArg nI (Nat.mul_comm _ _))) ?_
    refine x_al1 (pc := 84) rfl rfl ?_
    refine g_1_8 (pc := 85) rfl rfl ?_
    refine x_const (pc := 88) (pc' := 89) (.int (nI 0)) rfl rfl rfl rfl ?_
    refine x_const (pc := 89) (pc' := 91) (.int (nI 32)) rfl rfl rfl rfl ?_
    refine x_k (pc := 91) rfl rfl rfl ⟨Nat.le_of_ble_eq_true rfl, Nat.le_of_ble_eq_true rfl, Nat.le_of_ble_eq_true rfl⟩ rfl (k_28_51 (I := I2) (A := A2) (S := S) (p := 128 * s) (f := 0) (c := 32) (t := hdr 8 1 0 N) (kD_on hD ho (show Fr [14, 15] I I2 from (Fr_cons (Fr_refl _ _) f2 (by decide))) (show Fr [3, 4] A A2 from (Fr_cons (Fr_refl _ _) g2 (by decide))) (by decide) (by decide)) ho hmk (gB0_by (hdr_by _ _ _ _)) (by omega) (by decide) h2 hn hu (fun o3 I3 A3 f3 g3 h3 => ?_) (fun o3 I3 A3 f3 g3 h3 => mK_x rfl (kx (ev ▸ o3) I3 A3 (Up_tr (Up_fr (show Fr [14, 15] I I2 from (Fr_cons (Fr_refl _ _) f2 (by decide))) (by decide)) f3) (Up_tr (Up_fr (show Fr [3, 4] A A2 from (Fr_cons (Fr_refl _ _) g2 (by decide))) (by decide)) g3) (ev ▸ h3))))
    show mq 65 94 [some (.ref 1), some (.ref 13), some (.ref 53), some (.int (nI s))] [] (hS n u I3 A3 J B mk sn L xs X) _
    refine x_al1 (pc := 94) rfl rfl ?_
    refine x_al1 (pc := 95) rfl rfl ?_
    refine g_13_5 (pc := 96) (v := nI cn) rfl rfl ((f3 40 (by decide)).trans ((f2 40 (by decide)).trans hc)) ?_
    refine x_il1 (pc := 99) rfl rfl ?_
    refine x_k (pc := 100) rfl rfl rfl ⟨Nat.le_of_ble_eq_true rfl, Nat.le_of_ble_eq_true rfl, Nat.le_of_ble_eq_true rfl⟩ rfl (k_34e_0 (I := I3) (A := A3) (cn := cn) (s := s) hc16 ((f3 40 (by decide)).trans ((f2 40 (by decide)).trans hc)) ?_)
    show mq 65 103 [some (.ref 1), some (.ref 13), some (.ref 53), some (.int (nI s))] [] (hS n u (va_up I3 40 (nI (cn + 1))) (va_up A3 30 (upd (A3 30) cn (nI s))) J B mk sn L xs X) _
    refine x_il1 (pc := 103) rfl rfl ?_
    refine x_ret (pc := 104) rfl rfl ?_
    exact kk (ev ▸ o3) _ _ (Fr_u (Fr_cons (Fr_cons (Fr_refl _ _) f2 (by decide)) f3 (by decide)) (by decide)) (Fr_u (Fr_cons (Fr_cons (Fr_refl _ _) g2 (by decide)) g3 (by decide)) (by decide)) (kD_on (ev ▸ h3) (ev ▸ o3) (Fr_up I3 40 _) (Fr_up A3 30 _) (by decide) (by decide)) rfl (show upd (A3 30) cn (nI s) = _ by rw [g3 30 (by decide), g2 30 (by decide)])
  · refine x_al1 (pc := 7) rfl rfl ?_
    refine x_al1 (pc := 8) rfl rfl ?_
    refine x_k (pc := 9) rfl rfl rfl ⟨Nat.le_of_ble_eq_true rfl, Nat.le_of_ble_eq_true rfl, Nat.le_of_ble_eq_true rfl⟩ rfl (k_51_0 (I := I) (A := A) hcn hc hsl (by omega) ?_)
    show mq 65 12 [some (.ref 1), some (.ref 13), some (.ref 53), none] [.int (nI (f (cn - 1))), .ref 1] (hS n u I A J B mk sn L xs X) _
    refine x_al1 (pc := 12) rfl rfl ?_
    refine x_k (pc := 13) rfl rfl rfl ⟨Nat.le_of_ble_eq_true rfl, Nat.le_of_ble_eq_true rfl, Nat.le_of_ble_eq_true rfl⟩ rfl (k_66_2 (I := I) (A := A) (D := dD S) (l := l) (p := p) (q := q) hD.2.1 (hf _ (by omega)) hl1 hl4 hB (fun I1 A1 f1 g1 h1 => ?_))
    show mq 65 16 [some (.ref 1), some (.ref 13), some (.ref 53), none] [] (hS n u I1 A1 J B mk sn L xs X) _
    refine x_al1 (pc := 16) rfl rfl ?_
    refine g_1_0 (pc := 17) rfl rfl ?_
    refine x_al1 (pc := 20) rfl rfl ?_
    refine x_k (pc := 21) rfl rfl rfl ⟨Nat.le_of_ble_eq_true rfl, Nat.le_of_ble_eq_true rfl, Nat.le_of_ble_eq_true rfl⟩ rfl (k_51_0 (I := I1) (A := A1) hcn ((f1 40 (by decide)).trans hc) (fun j hj => by rw [g1 30 (by decide)]; exact hsl j hj) (by omega) ?_)
    show mq 65 24 [some (.ref 1), some (.ref 13), some (.ref 53), none] [.int (nI (f (cn - 1))), .ref 2] (hS n u I1 A1 J B mk sn L xs X) _
    refine x_k (pc := 24) rfl rfl rfl ⟨Nat.le_of_ble_eq_true rfl, Nat.le_of_ble_eq_true rfl, Nat.le_of_ble_eq_true rfl⟩ rfl (mq_k (c_37 (I := I1) (A := A1) (D := dD S) (by rw [g1 0 (by decide)]; exact hD.2.1) (hf _ (by omega))) ?_)
    show mq 65 27 [some (.ref 1), some (.ref 13), some (.ref 53), none] [.int (nI (mB (dD S) (f (cn - 1))))] (hS n u I1 A1 J B mk sn L xs X) _
    refine x_al1 (pc := 27) rfl rfl ?_
    refine g_1_7 (pc := 28) rfl rfl ?_
    refine g_49_1 (pc := 31) (v := nI ((eBt (nI (bB (dD S) (f (cn - 1)))) p q l).length)) rfl rfl h1.1 ?_
    refine x_iaddN (pc := 34) (c := (mB (dD S) (f (cn - 1))) + ((eBt (nI (bB (dD S) (f (cn - 1)))) p q l).length)) rfl rfl ?_
    refine x_const (pc := 35) (pc' := 38) (.int (nI 128)) rfl rfl rfl rfl ?_
    have hel := eBt_len (nI (bB (dD S) (f (cn - 1)))) p q l
    have hmb := mB_lt hD.2.1.2.1 (f (cn - 1))
    refine x_cmpN_gt (pc := 38) (t := 46) rfl rfl (by omega) (by omega) (fun c38 => ?_) (fun c38 => ?_)
    · refine x_al1 (pc := 46) rfl rfl ?_
      refine g_1_0 (pc := 47) rfl rfl ?_
      refine x_k (pc := 50) rfl rfl rfl ⟨Nat.le_of_ble_eq_true rfl, Nat.le_of_ble_eq_true rfl, Nat.le_of_ble_eq_true rfl⟩ rfl (mq_k (c_71 (I := I1) (A := A1) (D := dD S) (by rw [g1 0 (by decide)]; exact hD.2.1)) ?_)
      show mq 65 53 [some (.ref 1), some (.ref 13), some (.ref 53), none] [.int (frS (dD S) 16 0)] (hS n u I1 A1 J B mk sn L xs X) _
      refine x_top (y := nI s) (hfr) ?_
      refine x_is1 (pc := 53) (ml' := [some (.ref 1), some (.ref 13), some (.ref 53), some (.int (nI s))]) rfl rfl ?_
      refine x_il1 (pc := 54) rfl rfl ?_
      refine x_ifN_lt (pc := 55) (t := 103) rfl rfl (by omega) ?_
      refine x_al1 (pc := 58) rfl rfl ?_
      refine g_1_8 (pc := 59) rfl rfl ?_
      refine x_const (pc := 62) (pc' := 64) (.int (nI 8)) rfl rfl rfl rfl ?_
      refine x_al1 (pc := 64) rfl rfl ?_
      refine g_13_0 (pc := 65) rfl rfl ?_
      refine x_const (pc := 68) (pc' := 69) (.int (nI 1)) rfl rfl rfl rfl ?_
      refine x_iaddN (pc := 69) (c := 1) rfl rfl ?_
      refine x_const (pc := 70) (pc' := 71) (.int (nI 0)) rfl rfl rfl rfl ?_
      refine x_al1 (pc := 71) rfl rfl ?_
      refine g_13_7 (pc := 72) (v := nI N) rfl rfl ((f1 42 (by decide)).trans hN) ?_
      refine x_k (pc := 75) rfl rfl rfl ⟨Nat.le_of_ble_eq_true rfl, Nat.le_of_ble_eq_true rfl, Nat.le_of_ble_eq_true rfl⟩ rfl (k_72_51 (I := I1) (A := A1) (m := 8) (o := 1) (g := 0) (b := N) (by decide) (by omega) (fun I2 A2 f2 g2 h2 => ?_))
      show mq 65 78 [some (.ref 1), some (.ref 13), some (.ref 53), some (.int (nI s))] [] (hS n u I2 A2 J B mk sn L xs X) _
      refine x_al1 (pc := 78) rfl rfl ?_
      refine x_il1 (pc := 79) rfl rfl ?_
      refine x_const (pc := 80) (pc' := 83) (.int (nI 128)) rfl rfl rfl rfl ?_
      refine x_imulV (pc := 83) (v := nI (128 * s)) rfl ((pk_mul _ _).trans (congrArg nI (Nat.mul_comm _ _))) ?_
      refine x_al1 (pc := 84) rfl rfl ?_
      refine g_1_8 (pc := 85) rfl rfl ?_
      refine x_const (pc := 88) (pc' := 89) (.int (nI 0)) rfl rfl rfl rfl ?_
      refine x_const (pc := 89) (pc' := 91) (.int (nI 32)) rfl rfl rfl rfl ?_
      refine x_k (pc := 91) rfl rfl rfl ⟨Nat.le_of_ble_eq_true rfl, Nat.le_of_ble_eq_true rfl, Nat.le_of_ble_eq_true rfl⟩ rfl (k_28_51 (I := I2) (A := A2) (S := S) (p := 128 * s) (f := 0) (c := 32) (t := hdr 8 1 0 N) (kD_on hD ho (show Fr [14, 15] I I2 from (Fr_cons (Fr_cons (Fr_refl _ _) f1 (by decide)) f2 (by decide))) (show Fr [3, 4] A A2 from (Fr_cons (Fr_cons (Fr_refl _ _) g1 (by decide)) g2 (by decide))) (by decide) (by decide)) ho hmk (gB0_by (hdr_by _ _ _ _)) (by omega) (by decide) h2 hn hu (fun o3 I3 A3 f3 g3 h3 => ?_) (fun o3 I3 A3 f3 g3 h3 => mK_x rfl (kx (ev ▸ o3) I3 A3 (Up_tr (Up_fr (show Fr [14, 15] I I2 from (Fr_cons (Fr_cons (Fr_refl _ _) f1 (by decide)) f2 (by decide))) (by decide)) f3) (Up_tr (Up_fr (show Fr [3, 4] A A2 from (Fr_cons (Fr_cons (Fr_refl _ _) g1 (by decide)) g2 (by decide))) (by decide)) g3) (ev ▸ h3))))
      show mq 65 94 [some (.ref 1), some (.ref 13), some (.ref 53), some (.int (nI s))] [] (hS n u I3 A3 J B mk sn L xs X) _
      refine x_al1 (pc := 94) rfl rfl ?_
      refine x_al1 (pc := 95) rfl rfl ?_
      refine g_13_5 (pc := 96) (v := nI cn) rfl rfl ((f3 40 (by decide)).trans ((f2 40 (by decide)).trans ((f1 40 (by decide)).trans hc))) ?_
      refine x_il1 (pc := 99) rfl rfl ?_
      refine x_k (pc := 100) rfl rfl rfl ⟨Nat.le_of_ble_eq_true rfl, Nat.le_of_ble_eq_true rfl, Nat.le_of_ble_eq_true rfl⟩ rfl (k_34e_0 (I := I3) (A := A3) (cn := cn) (s := s) hc16 ((f3 40 (by decide)).trans ((f2 40 (by decide)).trans ((f1 40 (by decide)).trans hc))) ?_)
      show mq 65 103 [some (.ref 1), some (.ref 13), some (.ref 53), some (.int (nI s))] [] (hS n u (va_up I3 40 (nI (cn + 1))) (va_up A3 30 (upd (A3 30) cn (nI s))) J B mk sn L xs X) _
      refine x_il1 (pc := 103) rfl rfl ?_
      refine x_ret (pc := 104) rfl rfl ?_
      exact kk (ev ▸ o3) _ _ (Fr_u (Fr_cons (Fr_cons (Fr_cons (Fr_refl _ _) f1 (by decide)) f2 (by decide)) f3 (by decide)) (by decide)) (Fr_u (Fr_cons (Fr_cons (Fr_cons (Fr_refl _ _) g1 (by decide)) g2 (by decide)) g3 (by decide)) (by decide)) (kD_on (ev ▸ h3) (ev ▸ o3) (Fr_up I3 40 _) (Fr_up A3 30 _) (by decide) (by decide)) rfl (show upd (A3 30) cn (nI s) = _ by rw [g3 30 (by decide), g2 30 (by decide), g1 30 (by decide)])
    · omega
set_option maxRecDepth 100000 in
set_option maxHeartbeats 4000000 in
theorem k_65a_0_3 {cn N : Nat} {f : Nat → Nat} {l : List R5} {p q : Int32} {S : DS} (hD : kD mk S I A) (ho : dO S = false) (hcn : cn ≤ 16) (hc : I 40 = nI cn) (hf : ∀ k, k < cn → f k < 16) (hsl : ∀ j, j < cn → A 30 j = nI (f j)) (hN : I 42 = nI N) (hNb : N + 4 < 2 ^ 31) (hB : BT 3 I A l p q) (hl1 : 1 ≤ l.length) (hl4 : l.length ≤ 4) (hp : 0 < cn) (hfit : mB (dD S) (f (cn - 1)) + (eBt (nI (bB (dD S) (f (cn - 1)))) p q l).length ≤ 128) {Q : mO × mHp → Prop} (kk : ∀ I' A', Fr [14] I I' → Fr [3] A A' → Q (.inl (some (.int (nI (f (cn - 1))))), hS n u I' A' J B mk sn L xs X)) : mq 65 0 [some (.ref 1), some (.ref 13), some (.ref 60), none] [] (hS n u I A J B mk sn L xs X) Q := by
  refine x_al1 (pc := 0) rfl rfl ?_
  refine g_13_5 (pc := 1) (v := nI cn) rfl rfl hc ?_
  refine x_ifN_le (pc := 4) (t := 46) rfl rfl (by omega) (fun c4 => ?_) (fun c4 => ?_)
  · omega
  · refine x_al1 (pc := 7) rfl rfl ?_
    refine x_al1 (pc := 8) rfl rfl ?_
    refine x_k (pc := 9) rfl rfl rfl ⟨Nat.le_of_ble_eq_true rfl, Nat.le_of_ble_eq_true rfl, Nat.le_of_ble_eq_true rfl⟩ rfl (k_51_0 (I := I) (A := A) hcn hc hsl (by omega) ?_)
    show mq 65 12 [some (.ref 1), some (.ref 13), some (.ref 60), none] [.int (nI (f (cn - 1))), .ref 1] (hS n u I A J B mk sn L xs X) _
    refine x_al1 (pc := 12) rfl rfl ?_
    refine x_k (pc := 13) rfl rfl rfl ⟨Nat.le_of_ble_eq_true rfl, Nat.le_of_ble_eq_true rfl, Nat.le_of_ble_eq_true rfl⟩ rfl (k_66_3 (I := I) (A := A) (D := dD S) (l := l) (p := p) (q := q) hD.2.1 (hf _ (by omega)) hl1 hl4 hB (fun I1 A1 f1 g1 h1 => ?_))
    show mq 65 16 [some (.ref 1), some (.ref 13), some (.ref 60), none] [] (hS n u I1 A1 J B mk sn L xs X) _
    refine x_al1 (pc := 16) rfl rfl ?_
    refine g_1_0 (pc := 17) rfl rfl ?_
    refine x_al1 (pc := 20) rfl rfl ?_
    refine x_k (pc := 21) rfl rfl rfl ⟨Nat.le_of_ble_eq_true rfl, Nat.le_of_ble_eq_true rfl, Nat.le_of_ble_eq_true rfl⟩ rfl (k_51_0 (I := I1) (A := A1) hcn ((f1 40 (by decide)).trans hc) (fun j hj => by rw [g1 30 (by decide)]; exact hsl j hj) (by omega) ?_)
    show mq 65 24 [some (.ref 1), some (.ref 13), some (.ref 60), none] [.int (nI (f (cn - 1))), .ref 2] (hS n u I1 A1 J B mk sn L xs X) _
    refine x_k (pc := 24) rfl rfl rfl ⟨Nat.le_of_ble_eq_true rfl, Nat.le_of_ble_eq_true rfl, Nat.le_of_ble_eq_true rfl⟩ rfl (mq_k (c_37 (I := I1) (A := A1) (D := dD S) (by rw [g1 0 (by decide)]; exact hD.2.1) (hf _ (by omega))) ?_)
    show mq 65 27 [some (.ref 1), some (.ref 13), some (.ref 60), none] [.int (nI (mB (dD S) (f (cn - 1))))] (hS n u I1 A1 J B mk sn L xs X) _
    refine x_al1 (pc := 27) rfl rfl ?_
    refine g_1_7 (pc := 28) rfl rfl ?_
    refine g_49_1 (pc := 31) (v := nI ((eBt (nI (bB (dD S) (f (cn - 1)))) p q l).length)) rfl rfl h1.1 ?_
    refine x_iaddN (pc := 34) (c := (mB (dD S) (f (cn - 1))) + ((eBt (nI (bB (dD S) (f (cn - 1)))) p q l).length)) rfl rfl ?_
    refine x_const (pc := 35) (pc' := 38) (.int (nI 128)) rfl rfl rfl rfl ?_
    have hel := eBt_len (nI (bB (dD S) (f (cn - 1)))) p q l
    have hmb := mB_lt hD.2.1.2.1 (f (cn - 1))
    refine x_cmpN_gt (pc := 38) (t := 46) rfl rfl (by omega) (by omega) (fun c38 => ?_) (fun c38 => ?_)
    · omega
    · refine x_al1 (pc := 41) rfl rfl ?_
      refine x_k (pc := 42) rfl rfl rfl ⟨Nat.le_of_ble_eq_true rfl, Nat.le_of_ble_eq_true rfl, Nat.le_of_ble_eq_true rfl⟩ rfl (k_51_0 (I := I1) (A := A1) hcn ((f1 40 (by decide)).trans hc) (fun j hj => by rw [g1 30 (by decide)]; exact hsl j hj) (by omega) ?_)
      show mq 65 45 [some (.ref 1), some (.ref 13), some (.ref 60), none] [.int (nI (f (cn - 1)))] (hS n u I1 A1 J B mk sn L xs X) _
      refine x_ret (pc := 45) rfl rfl ?_
      exact kk _ _ (Fr_cons (Fr_refl _ _) f1 (by decide)) (Fr_cons (Fr_refl _ _) g1 (by decide))
set_option maxRecDepth 100000 in
set_option maxHeartbeats 4000000 in
theorem k_65c_0_3 {cn N : Nat} {f : Nat → Nat} {l : List R5} {p q : Int32} {S : DS} (hD : kD mk S I A) (ho : dO S = false) (hcn : cn ≤ 16) (hc : I 40 = nI cn) (hf : ∀ k, k < cn → f k < 16) (hsl : ∀ j, j < cn → A 30 j = nI (f j)) (hN : I 42 = nI N) (hNb : N + 4 < 2 ^ 31) (hB : BT 3 I A l p q) (hl1 : 1 ≤ l.length) (hl4 : l.length ≤ 4) (hnf : cn = 0 ∨ 128 < mB (dD S) (f (cn - 1)) + (eBt (nI (bB (dD S) (f (cn - 1)))) p q l).length) (hfr : frS (dD S) 16 0 = -1) {Q : mO × mHp → Prop} (kk : ∀ I' A', Fr [14] I I' → Fr [3] A A' → Q (.inl (some (.int (-1))), hS n u I' A' J B mk sn L xs X)) : mq 65 0 [some (.ref 1), some (.ref 13), some (.ref 60), none] [] (hS n u I A J B mk sn L xs X) Q := by
  refine x_al1 (pc := 0) rfl rfl ?_
  refine g_13_5 (pc := 1) (v := nI cn) rfl rfl hc ?_
  refine x_ifN_le (pc := 4) (t := 46) rfl rfl (by omega) (fun c4 => ?_) (fun c4 => ?_)
  · refine x_al1 (pc := 46) rfl rfl ?_
    refine g_1_0 (pc := 47) rfl rfl ?_
    refine x_k (pc := 50) rfl rfl rfl ⟨Nat.le_of_ble_eq_true rfl, Nat.le_of_ble_eq_true rfl, Nat.le_of_ble_eq_true rfl⟩ rfl (mq_k (c_71 (I := I) (A := A) (D := dD S) hD.2.1) ?_)
    show mq 65 53 [some (.ref 1), some (.ref 13), some (.ref 60), none] [.int (frS (dD S) 16 0)] (hS n u I A J B mk sn L xs X) _
    refine x_top (y := (-1)) (hfr) ?_
    refine x_is1 (pc := 53) (ml' := [some (.ref 1), some (.ref 13), some (.ref 60), some (.int (-1))]) rfl rfl ?_
    refine x_il1 (pc := 54) rfl rfl ?_
    refine x_if_lt (pc := 55) (t := 103) rfl rfl rfl (fun _ => ?_) (fun c => absurd (by decide) c)
    refine x_il1 (pc := 103) rfl rfl ?_
    refine x_ret (pc := 104) rfl rfl ?_
    exact kk _ _ (Fr_refl _ _) (Fr_refl _ _)
  · refine x_al1 (pc := 7) rfl rfl ?_
    refine x_al1 (pc := 8) rfl rfl ?_
    refine x_k (pc := 9) rfl rfl rfl ⟨Nat.le_of_ble_eq_true rfl, Nat.le_of_ble_eq_true rfl, Nat.le_of_ble_eq_true rfl⟩ rfl (k_51_0 (I := I) (A := A) hcn hc hsl (by omega) ?_)
    show mq 65 12 [some (.ref 1), some (.ref 13), some (.ref 60), none] [.int (nI (f (cn - 1))), .ref 1] (hS n u I A J B mk sn L xs X) _
    refine x_al1 (pc := 12) rfl rfl ?_
    refine x_k (pc := 13) rfl rfl rfl ⟨Nat.le_of_ble_eq_true rfl, Nat.le_of_ble_eq_true rfl, Nat.le_of_ble_eq_true rfl⟩ rfl (k_66_3 (I := I) (A := A) (D := dD S) (l := l) (p := p) (q := q) hD.2.1 (hf _ (by omega)) hl1 hl4 hB (fun I1 A1 f1 g1 h1 => ?_))
    show mq 65 16 [some (.ref 1), some (.ref 13), some (.ref 60), none] [] (hS n u I1 A1 J B mk sn L xs X) _
    refine x_al1 (pc := 16) rfl rfl ?_
    refine g_1_0 (pc := 17) rfl rfl ?_
    refine x_al1 (pc := 20) rfl rfl ?_
    refine x_k (pc := 21) rfl rfl rfl ⟨Nat.le_of_ble_eq_true rfl, Nat.le_of_ble_eq_true rfl, Nat.le_of_ble_eq_true rfl⟩ rfl (k_51_0 (I := I1) (A := A1) hcn ((f1 40 (by decide)).trans hc) (fun j hj => by rw [g1 30 (by decide)]; exact hsl j hj) (by omega) ?_)
    show mq 65 24 [some (.ref 1), some (.ref 13), some (.ref 60), none] [.int (nI (f (cn - 1))), .ref 2] (hS n u I1 A1 J B mk sn L xs X) _
    refine x_k (pc := 24) rfl rfl rfl ⟨Nat.le_of_ble_eq_true rfl, Nat.le_of_ble_eq_true rfl, Nat.le_of_ble_eq_true rfl⟩ rfl (mq_k (c_37 (I := I1) (A := A1) (D := dD S) (by rw [g1 0 (by decide)]; exact hD.2.1) (hf _ (by omega))) ?_)
    show mq 65 27 [some (.ref 1), some (.ref 13), some (.ref 60), none] [.int (nI (mB (dD S) (f (cn - 1))))] (hS n u I1 A1 J B mk sn L xs X) _
    refine x_al1 (pc := 27) rfl rfl ?_
    refine g_1_7 (pc := 28) rfl rfl ?_
    refine g_49_1 (pc := 31) (v := nI ((eBt (nI (bB (dD S) (f (cn - 1)))) p q l).length)) rfl rfl h1.1 ?_
    refine x_iaddN (pc := 34) (c := (mB (dD S) (f (cn - 1))) + ((eBt (nI (bB (dD S) (f (cn - 1)))) p q l).length)) rfl rfl ?_
    refine x_const (pc := 35) (pc' := 38) (.int (nI 128)) rfl rfl rfl rfl ?_
    have hel := eBt_len (nI (bB (dD S) (f (cn - 1)))) p q l
    have hmb := mB_lt hD.2.1.2.1 (f (cn - 1))
    refine x_cmpN_gt (pc := 38) (t := 46) rfl rfl (by omega) (by omega) (fun c38 => ?_) (fun c38 => ?_)
    · refine x_al1 (pc := 46) rfl rfl ?_
      refine g_1_0 (pc := 47) rfl rfl ?_
      refine x_k (pc := 50) rfl rfl rfl ⟨Nat.le_of_ble_eq_true rfl, Nat.le_of_ble_eq_true rfl, Nat.le_of_ble_eq_true rfl⟩ rfl (mq_k (c_71 (I := I1) (A := A1) (D := dD S) (by rw [g1 0 (by decide)]; exact hD.2.1)) ?_)
      show mq 65 53 [some (.ref 1), some (.ref 13), some (.ref 60), none] [.int (frS (dD S) 16 0)] (hS n u I1 A1 J B mk sn L xs X) _
      refine x_top (y := (-1)) (hfr) ?_
      refine x_is1 (pc := 53) (ml' := [some (.ref 1), some (.ref 13), some (.ref 60), some (.int (-1))]) rfl rfl ?_
      refine x_il1 (pc := 54) rfl rfl ?_
      refine x_if_lt (pc := 55) (t := 103) rfl rfl rfl (fun _ => ?_) (fun c => absurd (by decide) c)
      refine x_il1 (pc := 103) rfl rfl ?_
      refine x_ret (pc := 104) rfl rfl ?_
      exact kk _ _ (Fr_cons (Fr_refl _ _) f1 (by decide)) (Fr_cons (Fr_refl _ _) g1 (by decide))
    · omega
set_option maxRecDepth 100000 in
set_option maxHeartbeats 4000000 in
theorem k_65b_0_3 {cn N : Nat} {f : Nat → Nat} {l : List R5} {p q : Int32} {S : DS} (hD : kD mk S I A) (ho : dO S = false) (hcn : cn ≤ 16) (hc : I 40 = nI cn) (hf : ∀ k, k < cn → f k < 16) (hsl : ∀ j, j < cn → A 30 j = nI (f j)) (hN : I 42 = nI N) (hNb : N + 4 < 2 ^ 31) (hB : BT 3 I A l p q) (hl1 : 1 ≤ l.length) (hl4 : l.length ≤ 4) (hnf : cn = 0 ∨ 128 < mB (dD S) (f (cn - 1)) + (eBt (nI (bB (dD S) (f (cn - 1)))) p q l).length) {s : Nat} (hs : s < 16) (hfr : frS (dD S) 16 0 = nI s) (hc16 : cn < 16) (hmk : mks mk sn) (hn : 77 ≤ n ∧ n < 10000) (hu : u + 6 < 1000000) {Q : mO × mHp → Prop} (kk : dO (wr1 S (hdW s 0 N)) = false → ∀ I' A', Fr [2, 3, 14, 15, 40] I I' → Fr [0, 3, 4, 30] A A' → kD mk (wr1 S (hdW s 0 N)) I' A' → I' 40 = nI (cn + 1) → A' 30 = upd (A 30) cn (nI s) → Q (.inl (some (.int (nI s))), hS n u I' A' J B mk sn L xs X)) (kx : dO (wr1 S (hdW s 0 N)) = true → ∀ I' A', Up 60 I I' → Up 50 A A' → kD mk (wr1 S (hdW s 0 N)) I' A' → Q (.inr n, hS (n + 1) (u + 6) I' A' J B mk sn L xs (va_up X n (.inr (9, []))))) : mq 65 0 [some (.ref 1), some (.ref 13), some (.ref 60), none] [] (hS n u I A J B mk sn L xs X) Q := by
  have ev : wr1 S (wi (128 * s) 32 (fun i => gB0 (hdr 8 1 0 N) (0 + i))) = wr1 S (hdW s 0 N) := wr1_ext (fun i _ => by rw [Nat.zero_add])
  refine x_al1 (pc := 0) rfl rfl ?_
  refine g_13_5 (pc := 1) (v := nI cn) rfl rfl hc ?_
  refine x_ifN_le (pc := 4) (t := 46) rfl rfl (by omega) (fun c4 => ?_) (fun c4 => ?_)
  · refine x_al1 (pc := 46) rfl rfl ?_
    refine g_1_0 (pc := 47) rfl rfl ?_
    refine x_k (pc := 50) rfl rfl rfl ⟨Nat.le_of_ble_eq_true rfl, Nat.le_of_ble_eq_true rfl, Nat.le_of_ble_eq_true rfl⟩ rfl (mq_k (c_71 (I := I) (A := A) (D := dD S) hD.2.1) ?_)
    show mq 65 53 [some (.ref 1), some (.ref 13), some (.ref 60), none] [.int (frS (dD S) 16 0)] (hS n u I A J B mk sn L xs X) _
    refine x_top (y := nI s) (hfr) ?_
    refine x_is1 (pc := 53) (ml' := [some (.ref 1), some (.ref 13), some (.ref 60), some (.int (nI s))]) rfl rfl ?_
    refine x_il1 (pc := 54) rfl rfl ?_
    refine x_ifN_lt (pc := 55) (t := 103) rfl rfl (by omega) ?_
    refine x_al1 (pc := 58) rfl rfl ?_
    refine g_1_8 (pc := 59) rfl rfl ?_
    refine x_const (pc := 62) (pc' := 64) (.int (nI 8)) rfl rfl rfl rfl ?_
    refine x_al1 (pc := 64) rfl rfl ?_
    refine g_13_0 (pc := 65) rfl rfl ?_
    refine x_const (pc := 68) (pc' := 69) (.int (nI 1)) rfl rfl rfl rfl ?_
    refine x_iaddN (pc := 69) (c := 1) rfl rfl ?_
    refine x_const (pc := 70) (pc' := 71) (.int (nI 0)) rfl rfl rfl rfl ?_
    refine x_al1 (pc := 71) rfl rfl ?_
    refine g_13_7 (pc := 72) (v := nI N) rfl rfl hN ?_
    refine x_k (pc := 75) rfl rfl rfl ⟨Nat.le_of_ble_eq_true rfl, Nat.le_of_ble_eq_true rfl, Nat.le_of_ble_eq_true rfl⟩ rfl (k_72_51 (I := I) (A := A) (m := 8) (o := 1) (g := 0) (b := N) (by decide) (by omega) (fun I2 A2 f2 g2 h2 => ?_))
    show mq 65 78 [some (.ref 1), some (.ref 13), some (.ref 60), some (.int (nI s))] [] (hS n u I2 A2 J B mk sn L xs X) _
    refine x_al1 (pc := 78) rfl rfl ?_
    refine x_il1 (pc := 79) rfl rfl ?_
    refine x_const (pc := 80) (pc' := 83) (.int (nI 128)) rfl rfl rfl rfl ?_
    refine x_imulV (pc := 83) (v := nI (128 * s)) rfl ((pk_mul _ _).trans (congrArg nI (Nat.mul_comm _ _))) ?_
    refine x_al1 (pc := 84) rfl rfl ?_
    refine g_1_8 (pc := 85) rfl rfl ?_
    refine x_const (pc := 88) (pc' := 89) (.int (nI 0)) rfl rfl rfl rfl ?_
    refine x_const (pc := 89) (pc' := 91) (.int (nI 32)) rfl rfl rfl rfl ?_
    refine x_k (pc := 91) rfl rfl rfl ⟨Nat.le_of_ble_eq_true rfl, Nat.le_of_ble_eq_true rfl, Nat.le_of_ble_eq_true rfl⟩ rfl (k_28_51 (I := I2) (A := A2) (S := S) (p := 128 * s) (f := 0) (c := 32) (t := hdr 8 1 0 N) (kD_on hD ho (show Fr [14, 15] I I2 from (Fr_cons (Fr_refl _ _) f2 (by decide))) (show Fr [3, 4] A A2 from (Fr_cons (Fr_refl _ _) g2 (by decide))) (by decide) (by decide)) ho hmk (gB0_by (hdr_by _ _ _ _)) (by omega) (by decide) h2 hn hu (fun o3 I3 A3 f3 g3 h3 => ?_) (fun o3 I3 A3 f3 g3 h3 => mK_x rfl (kx (ev ▸ o3) I3 A3 (Up_tr (Up_fr (show Fr [14, 15] I I2 from (Fr_cons (Fr_refl _ _) f2 (by decide))) (by decide)) f3) (Up_tr (Up_fr (show Fr [3, 4] A A2 from (Fr_cons (Fr_refl _ _) g2 (by decide))) (by decide)) g3) (ev ▸ h3))))
    show mq 65 94 [some (.ref 1), some (.ref 13), some (.ref 60), some (.int (nI s))] [] (hS n u I3 A3 J B mk sn L xs X) _
    refine x_al1 (pc := 94) rfl rfl ?_
    refine x_al1 (pc := 95) rfl rfl ?_
    refine g_13_5 (pc := 96) (v := nI cn) rfl rfl ((f3 40 (by decide)).trans ((f2 40 (by decide)).trans hc)) ?_
    refine x_il1 (pc := 99) rfl rfl ?_
    refine x_k (pc := 100) rfl rfl rfl ⟨Nat.le_of_ble_eq_true rfl, Nat.le_of_ble_eq_true rfl, Nat.le_of_ble_eq_true rfl⟩ rfl (k_34e_0 (I := I3) (A := A3) (cn := cn) (s := s) hc16 ((f3 40 (by decide)).trans ((f2 40 (by decide)).trans hc)) ?_)
    show mq 65 103 [some (.ref 1), some (.ref 13), some (.ref 60), some (.int (nI s))] [] (hS n u (va_up I3 40 (nI (cn + 1))) (va_up A3 30 (upd (A3 30) cn (nI s))) J B mk sn L xs X) _
    refine x_il1 (pc := 103) rfl rfl ?_
    refine x_ret (pc := 104) rfl rfl ?_
    exact kk (ev ▸ o3) _ _ (Fr_u (Fr_cons (Fr_cons (Fr_refl _ _) f2 (by decide)) f3 (by decide)) (by decide)) (Fr_u (Fr_cons (Fr_cons (Fr_refl _ _) g2 (by decide)) g3 (by decide)) (by decide)) (kD_on (ev ▸ h3) (ev ▸ o3) (Fr_up I3 40 _) (Fr_up A3 30 _) (by decide) (by decide)) rfl (show upd (A3 30) cn (nI s) = _ by rw [g3 30 (by decide), g2 30 (by decide)])
  · refine x_al1 (pc := 7) rfl rfl ?_
    refine x_al1 (pc := 8) rfl rfl ?_
    refine x_k (pc := 9) rfl rfl rfl ⟨Nat.le_of_ble_eq_true rfl, Nat.le_of_ble_eq_true rfl, Nat.le_of_ble_eq_true rfl⟩ rfl (k_51_0 (I := I) (A := A) hcn hc hsl (by omega) ?_)
    show mq 65 12 [some (.ref 1), some (.ref 13), some (.ref 60), none] [.int (nI (f (cn - 1))), .ref 1] (hS n u I A J B mk sn L xs X) _
    refine x_al1 (pc := 12) rfl rfl ?_
    refine x_k (pc := 13) rfl rfl rfl ⟨Nat.le_of_ble_eq_true rfl, Nat.le_of_ble_eq_true rfl, Nat.le_of_ble_eq_true rfl⟩ rfl (k_66_3 (I := I) (A := A) (D := dD S) (l := l) (p := p) (q := q) hD.2.1 (hf _ (by omega)) hl1 hl4 hB (fun I1 A1 f1 g1 h1 => ?_))
    show mq 65 16 [some (.ref 1), some (.ref 13), some (.ref 60), none] [] (hS n u I1 A1 J B mk sn L xs X) _
    refine x_al1 (pc := 16) rfl rfl ?_
    refine g_1_0 (pc := 17) rfl rfl ?_
    refine x_al1 (pc := 20) rfl rfl ?_
    refine x_k (pc := 21) rfl rfl rfl ⟨Nat.le_of_ble_eq_true rfl, Nat.le_of_ble_eq_true rfl, Nat.le_of_ble_eq_true rfl⟩ rfl (k_51_0 (I := I1) (A := A1) hcn ((f1 40 (by decide)).trans hc) (fun j hj => by rw [g1 30 (by decide)]; exact hsl j hj) (by omega) ?_)
    show mq 65 24 [some (.ref 1), some (.ref 13), some (.ref 60), none] [.int (nI (f (cn - 1))), .ref 2] (hS n u I1 A1 J B mk sn L xs X) _
    refine x_k (pc := 24) rfl rfl rfl ⟨Nat.le_of_ble_eq_true rfl, Nat.le_of_ble_eq_true rfl, Nat.le_of_ble_eq_true rfl⟩ rfl (mq_k (c_37 (I := I1) (A := A1) (D := dD S) (by rw [g1 0 (by decide)]; exact hD.2.1) (hf _ (by omega))) ?_)
    show mq 65 27 [some (.ref 1), some (.ref 13), some (.ref 60), none] [.int (nI (mB (dD S) (f (cn - 1))))] (hS n u I1 A1 J B mk sn L xs X) _
    refine x_al1 (pc := 27) rfl rfl ?_
    refine g_1_7 (pc := 28) rfl rfl ?_
    refine g_49_1 (pc := 31) (v := nI ((eBt (nI (bB (dD S) (f (cn - 1)))) p q l).length)) rfl rfl h1.1 ?_
    refine x_iaddN (pc := 34) (c := (mB (dD S) (f (cn - 1))) + ((eBt (nI (bB (dD S) (f (cn - 1)))) p q l).length)) rfl rfl ?_
    refine x_const (pc := 35) (pc' := 38) (.int (nI 128)) rfl rfl rfl rfl ?_
    have hel := eBt_len (nI (bB (dD S) (f (cn - 1)))) p q l
    have hmb := mB_lt hD.2.1.2.1 (f (cn - 1))
    refine x_cmpN_gt (pc := 38) (t := 46) rfl rfl (by omega) (by omega) (fun c38 => ?_) (fun c38 => ?_)
    · refine x_al1 (pc := 46) rfl rfl ?_
      refine g_1_0 (pc := 47) rfl rfl ?_
      refine x_k (pc := 50) rfl rfl rfl ⟨Nat.le_of_ble_eq_true rfl, Nat.le_of_ble_eq_true rfl, Nat.le_of_ble_eq_true rfl⟩ rfl (mq_k (c_71 (I := I1) (A := A1) (D := dD S) (by rw [g1 0 (by decide)]; exact hD.2.1)) ?_)
      show mq 65 53 [some (.ref 1), some (.ref 13), some (.ref 60), none] [.int (frS (dD S) 16 0)] (hS n u I1 A1 J B mk sn L xs X) _
      refine x_top (y := nI s) (hfr) ?_
      refine x_is1 (pc := 53) (ml' := [some (.ref 1), some (.ref 13), some (.ref 60), some (.int (nI s))]) rfl rfl ?_
      refine x_il1 (pc := 54) rfl rfl ?_
      refine x_ifN_lt (pc := 55) (t := 103) rfl rfl (by omega) ?_
      refine x_al1 (pc := 58) rfl rfl ?_
      refine g_1_8 (pc := 59) rfl rfl ?_
      refine x_const (pc := 62) (pc' := 64) (.int (nI 8)) rfl rfl rfl rfl ?_
      refine x_al1 (pc := 64) rfl rfl ?_
      refine g_13_0 (pc := 65) rfl rfl ?_
      refine x_const (pc := 68) (pc' := 69) (.int (nI 1)) rfl rfl rfl rfl ?_
      refine x_iaddN (pc := 69) (c := 1) rfl rfl ?_
      refine x_const (pc := 70) (pc' := 71) (.int (nI 0)) rfl rfl rfl rfl ?_
      refine x_al1 (pc := 71) rfl rfl ?_
      refine g_13_7 (pc := 72) (v := nI N) rfl rfl ((f1 42 (by decide)).trans hN) ?_
      refine x_k (pc := 75) rfl rfl rfl ⟨Nat.le_of_ble_eq_true rfl, Nat.le_of_ble_eq_true rfl, Nat.le_of_ble_eq_true rfl⟩ rfl (k_72_51 (I := I1) (A := A1) (m := 8) (o := 1) (g := 0) (b := N) (by decide) (by omega) (fun I2 A2 f2 g2 h2 => ?_))
      show mq 65 78 [some (.ref 1), some (.ref 13), some (.ref 60), some (.int (nI s))] [] (hS n u I2 A2 J B mk sn L xs X) _
      refine x_al1 (pc := 78) rfl rfl ?_
      refine x_il1 (pc := 79) rfl rfl ?_
      refine x_const (pc := 80) (pc' := 83) (.int (nI 128)) rfl rfl rfl rfl ?_
      refine x_imulV (pc := 83) (v := nI (128 * s)) rfl ((pk_mul _ _).trans (congrArg nI (Nat.mul_comm _ _))) ?_
      refine x_al1 (pc := 84) rfl rfl ?_
      refine g_1_8 (pc := 85) rfl rfl ?_
      refine x_const (pc := 88) (pc' := 89) (.int (nI 0)) rfl rfl rfl rfl ?_
      refine x_const (pc := 89) (pc' := 91) (.int (nI 32)) rfl rfl rfl rfl ?_
      refine x_k (pc := 91) rfl rfl rfl ⟨Nat.le_of_ble_eq_true rfl, Nat.le_of_ble_eq_true rfl, Nat.le_of_ble_eq_true rfl⟩ rfl (k_28_51 (I := I2) (A := A2) (S := S) (p := 128 * s) (f := 0) (c := 32) (t := hdr 8 1 0 N) (kD_on hD ho (show Fr [14, 15] I I2 from (Fr_cons (Fr_cons (Fr_refl _ _) f1 (by decide)) f2 (by decide))) (show Fr [3, 4] A A2 from (Fr_cons (Fr_cons (Fr_refl _ _) g1 (by decide)) g2 (by decide))) (by decide) (by decide)) ho hmk (gB0_by (hdr_by _ _ _ _)) (by omega) (by decide) h2 hn hu (fun o3 I3 A3 f3 g3 h3 => ?_) (fun o3 I3 A3 f3 g3 h3 => mK_x rfl (kx (ev ▸ o3) I3 A3 (Up_tr (Up_fr (show Fr [14, 15] I I2 from (Fr_cons (Fr_cons (Fr_refl _ _) f1 (by decide)) f2 (by decide))) (by decide)) f3) (Up_tr (Up_fr (show Fr [3, 4] A A2 from (Fr_cons (Fr_cons (Fr_refl _ _) g1 (by decide)) g2 (by decide))) (by decide)) g3) (ev ▸ h3))))
      show mq 65 94 [some (.ref 1), some (.ref 13), some (.ref 60), some (.int (nI s))] [] (hS n u I3 A3 J B mk sn L xs X) _
      refine x_al1 (pc := 94) rfl rfl ?_
      refine x_al1 (pc := 95) rfl rfl ?_
      refine g_13_5 (pc := 96) (v := nI cn) rfl rfl ((f3 40 (by decide)).trans ((f2 40 (by decide)).trans ((f1 40 (by decide)).trans hc))) ?_
      refine x_il1 (pc := 99) rfl rfl ?_
      refine x_k (pc := 100) rfl rfl rfl ⟨Nat.le_of_ble_eq_true rfl, Nat.le_of_ble_eq_true rfl, Nat.le_of_ble_eq_true rfl⟩ rfl (k_34e_0 (I := I3) (A := A3) (cn := cn) (s := s) hc16 ((f3 40 (by decide)).trans ((f2 40 (by decide)).trans ((f1 40 (by decide)).trans hc))) ?_)
      show mq 65 103 [some (.ref 1), some (.ref 13), some (.ref 60), some (.int (nI s))] [] (hS n u (va_up I3 40 (nI (cn + 1))) (va_up A3 30 (upd (A3 30) cn (nI s))) J B mk sn L xs X) _
      refine x_il1 (pc := 103) rfl rfl ?_
      refine x_ret (pc := 104) rfl rfl ?_
      exact kk (ev ▸ o3) _ _ (Fr_u (Fr_cons (Fr_cons (Fr_cons (Fr_refl _ _) f1 (by decide)) f2 (by decide)) f3 (by decide)) (by decide)) (Fr_u (Fr_cons (Fr_cons (Fr_cons (Fr_refl _ _) g1 (by decide)) g2 (by decide)) g3 (by decide)) (by decide)) (kD_on (ev ▸ h3) (ev ▸ o3) (Fr_up I3 40 _) (Fr_up A3 30 _) (by decide) (by decide)) rfl (show upd (A3 30) cn (nI s) = _ by rw [g3 30 (by decide), g2 30 (by decide), g1 30 (by decide)])
    · omega
set_option maxRecDepth 100000 in
set_option maxHeartbeats 4000000 in
theorem k_34e_1 {cn s : Nat} (hcn : cn < 16) (hc : I 43 = nI cn) {Q : mO × mHp → Prop} (kk : Q (.inl none, hS n u (va_up I 43 (nI (cn + 1))) (va_up A 34 (upd (A 34) cn (nI s))) J B mk sn L xs X)) : mq 34 0 [some (.ref 18), some (.int (nI cn)), some (.int (nI s)), none] [] (hS n u I A J B mk sn L xs X) Q := by
  refine x_al1 (pc := 0) rfl rfl ?_
  refine g_18_5 (pc := 1) (v := nI cn) rfl rfl hc ?_
  refine x_const (pc := 4) (pc' := 6) (.int (nI 16)) rfl rfl rfl rfl ?_
  refine x_cmpN_ge (pc := 6) (t := 21) rfl rfl (by omega) (by omega) (fun c6 => ?_) (fun c6 => ?_)
  · omega
  · refine x_il1 (pc := 9) rfl rfl ?_
    refine x_ifN_lt (pc := 10) (t := 21) rfl rfl (by omega) ?_
    refine x_il1 (pc := 13) rfl rfl ?_
    refine x_al1 (pc := 14) rfl rfl ?_
    refine g_18_5 (pc := 15) (v := nI cn) rfl rfl hc ?_
    refine x_cmpN_le (pc := 18) (t := 22) rfl rfl (by omega) (by omega) (fun c18 => ?_) (fun c18 => ?_)
    · refine x_al1 (pc := 22) rfl rfl ?_
      refine g_18_5 (pc := 23) (v := nI cn) rfl rfl hc ?_
      refine x_is1 (pc := 26) (ml' := [some (.ref 18), some (.int (nI cn)), some (.int (nI s)), some (.int (nI cn))]) rfl rfl ?_
      refine x_il1 (pc := 27) rfl rfl ?_
      refine x_il1 (pc := 28) rfl rfl ?_
      refine x_cmpN_le (pc := 29) (t := 52) rfl rfl (by omega) (by omega) (fun c29 => ?_) (fun c29 => ?_)
      · refine x_al1 (pc := 52) rfl rfl ?_
        refine g_18_1 (pc := 53) rfl rfl ?_
        refine x_il1 (pc := 56) rfl rfl ?_
        refine x_il1 (pc := 57) rfl rfl ?_
        refine as_19 (pc := 58) (q := cn) rfl rfl (by omega) ?_
        refine x_al1 (pc := 59) rfl rfl ?_
        refine x_step (pc := 60) (pc' := 61) (st' := [.ref 18, .ref 18]) rfl rfl rfl rfl ?_
        refine g_18_5 (pc := 61) (v := nI cn) rfl rfl hc ?_
        refine x_const (pc := 64) (pc' := 65) (.int (nI 1)) rfl rfl rfl rfl ?_
        refine x_iaddN (pc := 65) (c := cn + 1) rfl rfl ?_
        refine p_18_5 (pc := 66) rfl rfl ?_
        refine x_ret (pc := 69) rfl rfl ?_
        exact kk
      · omega
    · omega
set_option maxRecDepth 100000 in
set_option maxHeartbeats 4000000 in
theorem k_46_1_0 {p m : Nat} {q o : Int32} (hp : I 20 = nI p) (hp8 : p < 8) (hq : I 21 = q) (hm : I 22 = nI m) {Q : mO × mHp → Prop} (kk : ∀ A', Fr [35, 36, 37] A A' → A' 35 = upd (A 35) p q → A' 36 = upd (A 36) p (nI m) → A' 37 = upd (A 37) p o → Q (.inl none, hS n u I A' J B mk sn L xs X)) : mq 46 0 [some (.ref 18), some (.ref 5), some (.int o), none] [] (hS n u I A J B mk sn L xs X) Q := by
  refine x_al1 (pc := 0) rfl rfl ?_
  refine g_5_1 (pc := 1) (v := nI p) rfl rfl hp ?_
  refine x_is1 (pc := 4) (ml' := [some (.ref 18), some (.ref 5), some (.int o), some (.int (nI p))]) rfl rfl ?_
  refine x_il1 (pc := 5) rfl rfl ?_
  refine x_ifN_lt (pc := 6) (t := 45) rfl rfl (by omega) ?_
  refine x_il1 (pc := 9) rfl rfl ?_
  refine x_const (pc := 10) (pc' := 12) (.int (nI 8)) rfl rfl rfl rfl ?_
  refine x_cmpN_ge (pc := 12) (t := 45) rfl rfl (by omega) (by omega) (fun c12 => ?_) (fun c12 => ?_)
  · omega
  · refine x_al1 (pc := 15) rfl rfl ?_
    refine g_18_2 (pc := 16) rfl rfl ?_
    refine x_il1 (pc := 19) rfl rfl ?_
    refine x_al1 (pc := 20) rfl rfl ?_
    refine g_5_2 (pc := 21) (v := q) rfl rfl hq ?_
    refine as_20 (pc := 24) (q := p) rfl rfl (by omega) ?_
    refine x_al1 (pc := 25) rfl rfl ?_
    refine g_18_3 (pc := 26) rfl rfl ?_
    refine x_il1 (pc := 29) rfl rfl ?_
    refine x_al1 (pc := 30) rfl rfl ?_
    refine g_5_0 (pc := 31) rfl rfl ?_
    refine g_6_5 (pc := 34) (v := nI m) rfl rfl hm ?_
    refine as_21 (pc := 37) (q := p) rfl rfl (by omega) ?_
    refine x_al1 (pc := 38) rfl rfl ?_
    refine g_18_4 (pc := 39) rfl rfl ?_
    refine x_il1 (pc := 42) rfl rfl ?_
    refine x_il1 (pc := 43) rfl rfl ?_
    refine as_22 (pc := 44) (q := p) rfl rfl (by omega) ?_
    refine x_ret (pc := 45) rfl rfl ?_
    exact kk _ (Fr_u (Fr_u (Fr_u (Fr_refl _ _) (by decide)) (by decide)) (by decide)) rfl rfl rfl
set_option maxRecDepth 100000 in
set_option maxHeartbeats 4000000 in
theorem k_46n_1_0 {p : Nat} {o : Int32} (hp : I 20 = nI p) (hp8 : 8 ≤ p ∧ p < 256) {Q : mO × mHp → Prop} (kk : Q (.inl none, hS n u I A J B mk sn L xs X)) : mq 46 0 [some (.ref 18), some (.ref 5), some (.int o), none] [] (hS n u I A J B mk sn L xs X) Q := by
  refine x_al1 (pc := 0) rfl rfl ?_
  refine g_5_1 (pc := 1) (v := nI p) rfl rfl hp ?_
  refine x_is1 (pc := 4) (ml' := [some (.ref 18), some (.ref 5), some (.int o), some (.int (nI p))]) rfl rfl ?_
  refine x_il1 (pc := 5) rfl rfl ?_
  refine x_ifN_lt (pc := 6) (t := 45) rfl rfl (by omega) ?_
  refine x_il1 (pc := 9) rfl rfl ?_
  refine x_const (pc := 10) (pc' := 12) (.int (nI 8)) rfl rfl rfl rfl ?_
  refine x_cmpN_ge (pc := 12) (t := 45) rfl rfl (by omega) (by omega) (fun c12 => ?_) (fun c12 => ?_)
  · refine x_ret (pc := 45) rfl rfl ?_
    exact kk
  · omega
set_option maxRecDepth 100000 in
set_option maxHeartbeats 4000000 in
theorem k_46_1_2 {p m : Nat} {q o : Int32} (hp : I 26 = nI p) (hp8 : p < 8) (hq : I 27 = q) (hm : I 28 = nI m) {Q : mO × mHp → Prop} (kk : ∀ A', Fr [35, 36, 37] A A' → A' 35 = upd (A 35) p q → A' 36 = upd (A 36) p (nI m) → A' 37 = upd (A 37) p o → Q (.inl none, hS n u I A' J B mk sn L xs X)) : mq 46 0 [some (.ref 18), some (.ref 53), some (.int o), none] [] (hS n u I A J B mk sn L xs X) Q := by
  refine x_al1 (pc := 0) rfl rfl ?_
  refine g_53_1 (pc := 1) (v := nI p) rfl rfl hp ?_
  refine x_is1 (pc := 4) (ml' := [some (.ref 18), some (.ref 53), some (.int o), some (.int (nI p))]) rfl rfl ?_
  refine x_il1 (pc := 5) rfl rfl ?_
  refine x_ifN_lt (pc := 6) (t := 45) rfl rfl (by omega) ?_
  refine x_il1 (pc := 9) rfl rfl ?_
  refine x_const (pc := 10) (pc' := 12) (.int (nI 8)) rfl rfl rfl rfl ?_
  refine x_cmpN_ge (pc := 12) (t := 45) rfl rfl (by omega) (by omega) (fun c12 => ?_) (fun c12 => ?_)
  · omega
  · refine x_al1 (pc := 15) rfl rfl ?_
    refine g_18_2 (pc := 16) rfl rfl ?_
    refine x_il1 (pc := 19) rfl rfl ?_
    refine x_al1 (pc := 20) rfl rfl ?_
    refine g_53_2 (pc := 21) (v := q) rfl rfl hq ?_
    refine as_20 (pc := 24) (q := p) rfl rfl (by omega) ?_
    refine x_al1 (pc := 25) rfl rfl ?_
    refine g_18_3 (pc := 26) rfl rfl ?_
    refine x_il1 (pc := 29) rfl rfl ?_
    refine x_al1 (pc := 30) rfl rfl ?_
    refine g_53_0 (pc := 31) rfl rfl ?_
    refine g_54_5 (pc := 34) (v := nI m) rfl rfl hm ?_
    refine as_21 (pc := 37) (q := p) rfl rfl (by omega) ?_
    refine x_al1 (pc := 38) rfl rfl ?_
    refine g_18_4 (pc := 39) rfl rfl ?_
    refine x_il1 (pc := 42) rfl rfl ?_
    refine x_il1 (pc := 43) rfl rfl ?_
    refine as_22 (pc := 44) (q := p) rfl rfl (by omega) ?_
    refine x_ret (pc := 45) rfl rfl ?_
    exact kk _ (Fr_u (Fr_u (Fr_u (Fr_refl _ _) (by decide)) (by decide)) (by decide)) rfl rfl rfl
set_option maxRecDepth 100000 in
set_option maxHeartbeats 4000000 in
theorem k_46n_1_2 {p : Nat} {o : Int32} (hp : I 26 = nI p) (hp8 : 8 ≤ p ∧ p < 256) {Q : mO × mHp → Prop} (kk : Q (.inl none, hS n u I A J B mk sn L xs X)) : mq 46 0 [some (.ref 18), some (.ref 53), some (.int o), none] [] (hS n u I A J B mk sn L xs X) Q := by
  refine x_al1 (pc := 0) rfl rfl ?_
  refine g_53_1 (pc := 1) (v := nI p) rfl rfl hp ?_
  refine x_is1 (pc := 4) (ml' := [some (.ref 18), some (.ref 53), some (.int o), some (.int (nI p))]) rfl rfl ?_
  refine x_il1 (pc := 5) rfl rfl ?_
  refine x_ifN_lt (pc := 6) (t := 45) rfl rfl (by omega) ?_
  refine x_il1 (pc := 9) rfl rfl ?_
  refine x_const (pc := 10) (pc' := 12) (.int (nI 8)) rfl rfl rfl rfl ?_
  refine x_cmpN_ge (pc := 12) (t := 45) rfl rfl (by omega) (by omega) (fun c12 => ?_) (fun c12 => ?_)
  · refine x_ret (pc := 45) rfl rfl ?_
    exact kk
  · omega
set_option maxRecDepth 100000 in
set_option maxHeartbeats 4000000 in
theorem k_46_1_3 {p m : Nat} {q o : Int32} (hp : I 29 = nI p) (hp8 : p < 8) (hq : I 30 = q) (hm : I 31 = nI m) {Q : mO × mHp → Prop} (kk : ∀ A', Fr [35, 36, 37] A A' → A' 35 = upd (A 35) p q → A' 36 = upd (A 36) p (nI m) → A' 37 = upd (A 37) p o → Q (.inl none, hS n u I A' J B mk sn L xs X)) : mq 46 0 [some (.ref 18), some (.ref 60), some (.int o), none] [] (hS n u I A J B mk sn L xs X) Q := by
  refine x_al1 (pc := 0) rfl rfl ?_
  refine g_60_1 (pc := 1) (v := nI p) rfl rfl hp ?_
  refine x_is1 (pc := 4) (ml' := [some (.ref 18), some (.ref 60), some (.int o), some (.int (nI p))]) rfl rfl ?_
  refine x_il1 (pc := 5) rfl rfl ?_
  refine x_ifN_lt (pc := 6) (t := 45) rfl rfl (by omega) ?_
  refine x_il1 (pc := 9) rfl rfl ?_
  refine x_const (pc := 10) (pc' := 12) (.int (nI 8)) rfl rfl rfl rfl ?_
  refine x_cmpN_ge (pc := 12) (t := 45) rfl rfl (by omega) (by omega) (fun c12 => ?_) (fun c12 => ?_)
  · omega
  · refine x_al1 (pc := 15) rfl rfl ?_
    refine g_18_2 (pc := 16) rfl rfl ?_
    refine x_il1 (pc := 19) rfl rfl ?_
    refine x_al1 (pc := 20) rfl rfl ?_
    refine g_60_2 (pc := 21) (v := q) rfl rfl hq ?_
    refine as_20 (pc := 24) (q := p) rfl rfl (by omega) ?_
    refine x_al1 (pc := 25) rfl rfl ?_
    refine g_18_3 (pc := 26) rfl rfl ?_
    refine x_il1 (pc := 29) rfl rfl ?_
    refine x_al1 (pc := 30) rfl rfl ?_
    refine g_60_0 (pc := 31) rfl rfl ?_
    refine g_61_5 (pc := 34) (v := nI m) rfl rfl hm ?_
    refine as_21 (pc := 37) (q := p) rfl rfl (by omega) ?_
    refine x_al1 (pc := 38) rfl rfl ?_
    refine g_18_4 (pc := 39) rfl rfl ?_
    refine x_il1 (pc := 42) rfl rfl ?_
    refine x_il1 (pc := 43) rfl rfl ?_
    refine as_22 (pc := 44) (q := p) rfl rfl (by omega) ?_
    refine x_ret (pc := 45) rfl rfl ?_
    exact kk _ (Fr_u (Fr_u (Fr_u (Fr_refl _ _) (by decide)) (by decide)) (by decide)) rfl rfl rfl
set_option maxRecDepth 100000 in
set_option maxHeartbeats 4000000 in
theorem k_46n_1_3 {p : Nat} {o : Int32} (hp : I 29 = nI p) (hp8 : 8 ≤ p ∧ p < 256) {Q : mO × mHp → Prop} (kk : Q (.inl none, hS n u I A J B mk sn L xs X)) : mq 46 0 [some (.ref 18), some (.ref 60), some (.int o), none] [] (hS n u I A J B mk sn L xs X) Q := by
  refine x_al1 (pc := 0) rfl rfl ?_
  refine g_60_1 (pc := 1) (v := nI p) rfl rfl hp ?_
  refine x_is1 (pc := 4) (ml' := [some (.ref 18), some (.ref 60), some (.int o), some (.int (nI p))]) rfl rfl ?_
  refine x_il1 (pc := 5) rfl rfl ?_
  refine x_ifN_lt (pc := 6) (t := 45) rfl rfl (by omega) ?_
  refine x_il1 (pc := 9) rfl rfl ?_
  refine x_const (pc := 10) (pc' := 12) (.int (nI 8)) rfl rfl rfl rfl ?_
  refine x_cmpN_ge (pc := 12) (t := 45) rfl rfl (by omega) (by omega) (fun c12 => ?_) (fun c12 => ?_)
  · refine x_ret (pc := 45) rfl rfl ?_
    exact kk
  · omega
set_option maxRecDepth 100000 in
set_option maxHeartbeats 4000000 in
theorem k_65a_1_2 {cn N : Nat} {f : Nat → Nat} {l : List R5} {p q : Int32} {S : DS} (hD : kD mk S I A) (ho : dO S = false) (hcn : cn ≤ 16) (hc : I 43 = nI cn) (hf : ∀ k, k < cn → f k < 16) (hsl : ∀ j, j < cn → A 34 j = nI (f j)) (hN : I 45 = nI N) (hNb : N + 4 < 2 ^ 31) (hB : BT 2 I A l p q) (hl1 : 1 ≤ l.length) (hl4 : l.length ≤ 4) (hp : 0 < cn) (hfit : mB (dD S) (f (cn - 1)) + (eBt (nI (bB (dD S) (f (cn - 1)))) p q l).length ≤ 128) {Q : mO × mHp → Prop} (kk : ∀ I' A', Fr [14] I I' → Fr [3] A A' → Q (.inl (some (.int (nI (f (cn - 1))))), hS n u I' A' J B mk sn L xs X)) : mq 65 0 [some (.ref 1), some (.ref 18), some (.ref 53), none] [] (hS n u I A J B mk sn L xs X) Q := by
  refine x_al1 (pc := 0) rfl rfl ?_
  refine g_18_5 (pc := 1) (v := nI cn) rfl rfl hc ?_
  refine x_ifN_le (pc := 4) (t := 46) rfl rfl (by omega) (fun c4 => ?_) (fun c4 => ?_)
  · omega
  · refine x_al1 (pc := 7) rfl rfl ?_
    refine x_al1 (pc := 8) rfl rfl ?_
    refine x_k (pc := 9) rfl rfl rfl ⟨Nat.le_of_ble_eq_true rfl, Nat.le_of_ble_eq_true rfl, Nat.le_of_ble_eq_true rfl⟩ rfl (k_51_1 (I := I) (A := A) hcn hc hsl (by omega) ?_)
    show mq 65 12 [some (.ref 1), some (.ref 18), some (.ref 53), none] [.int (nI (f (cn - 1))), .ref 1] (hS n u I A J B mk sn L xs X) _
    refine x_al1 (pc := 12) rfl rfl ?_
    refine x_k (pc := 13) rfl rfl rfl ⟨Nat.le_of_ble_eq_true rfl, Nat.le_of_ble_eq_true rfl, Nat.le_of_ble_eq_true rfl⟩ rfl (k_66_2 (I := I) (A := A) (D := dD S) (l := l) (p := p) (q := q) hD.2.1 (hf _ (by omega)) hl1 hl4 hB (fun I1 A1 f1 g1 h1 => ?_))
    show mq 65 16 [some (.ref 1), some (.ref 18), some (.ref 53), none] [] (hS n u I1 A1 J B mk sn L xs X) _
    refine x_al1 (pc := 16) rfl rfl ?_
    refine g_1_0 (pc := 17) rfl rfl ?_
    refine x_al1 (pc := 20) rfl rfl ?_
    refine x_k (pc := 21) rfl rfl rfl ⟨Nat.le_of_ble_eq_true rfl, Nat.le_of_ble_eq_true rfl, Nat.le_of_ble_eq_true rfl⟩ rfl (k_51_1 (I := I1) (A := A1) hcn ((f1 43 (by decide)).trans hc) (fun j hj => by rw [g1 34 (by decide)]; exact hsl j hj) (by omega) ?_)
    show mq 65 24 [some (.ref 1), some (.ref 18), some (.ref 53), none] [.int (nI (f (cn - 1))), .ref 2] (hS n u I1 A1 J B mk sn L xs X) _
    refine x_k (pc := 24) rfl rfl rfl ⟨Nat.le_of_ble_eq_true rfl, Nat.le_of_ble_eq_true rfl, Nat.le_of_ble_eq_true rfl⟩ rfl (mq_k (c_37 (I := I1) (A := A1) (D := dD S) (by rw [g1 0 (by decide)]; exact hD.2.1) (hf _ (by omega))) ?_)
    show mq 65 27 [some (.ref 1), some (.ref 18), some (.ref 53), none] [.int (nI (mB (dD S) (f (cn - 1))))] (hS n u I1 A1 J B mk sn L xs X) _
    refine x_al1 (pc := 27) rfl rfl ?_
    refine g_1_7 (pc := 28) rfl rfl ?_
    refine g_49_1 (pc := 31) (v := nI ((eBt (nI (bB (dD S) (f (cn - 1)))) p q l).length)) rfl rfl h1.1 ?_
    refine x_iaddN (pc := 34) (c := (mB (dD S) (f (cn - 1))) + ((eBt (nI (bB (dD S) (f (cn - 1)))) p q l).length)) rfl rfl ?_
    refine x_const (pc := 35) (pc' := 38) (.int (nI 128)) rfl rfl rfl rfl ?_
    have hel := eBt_len (nI (bB (dD S) (f (cn - 1)))) p q l
    have hmb := mB_lt hD.2.1.2.1 (f (cn - 1))
    refine x_cmpN_gt (pc := 38) (t := 46) rfl rfl (by omega) (by omega) (fun c38 => ?_) (fun c38 => ?_)
    · omega
    · refine x_al1 (pc := 41) rfl rfl ?_
      refine x_k (pc := 42) rfl rfl rfl ⟨Nat.le_of_ble_eq_true rfl, Nat.le_of_ble_eq_true rfl, Nat.le_of_ble_eq_true rfl⟩ rfl (k_51_1 (I := I1) (A := A1) hcn ((f1 43 (by decide)).trans hc) (fun j hj => by rw [g1 34 (by decide)]; exact hsl j hj) (by omega) ?_)
      show mq 65 45 [some (.ref 1), some (.ref 18), some (.ref 53), none] [.int (nI (f (cn - 1)))] (hS n u I1 A1 J B mk sn L xs X) _
      refine x_ret (pc := 45) rfl rfl ?_
      exact kk _ _ (Fr_cons (Fr_refl _ _) f1 (by decide)) (Fr_cons (Fr_refl _ _) g1 (by decide))
set_option maxRecDepth 100000 in
set_option maxHeartbeats 4000000 in
theorem k_65c_1_2 {cn N : Nat} {f : Nat → Nat} {l : List R5} {p q : Int32} {S : DS} (hD : kD mk S I A) (ho : dO S = false) (hcn : cn ≤ 16) (hc : I 43 = nI cn) (hf : ∀ k, k < cn → f k < 16) (hsl : ∀ j, j < cn → A 34 j = nI (f j)) (hN : I 45 = nI N) (hNb : N + 4 < 2 ^ 31) (hB : BT 2 I A l p q) (hl1 : 1 ≤ l.length) (hl4 : l.length ≤ 4) (hnf : cn = 0 ∨ 128 < mB (dD S) (f (cn - 1)) + (eBt (nI (bB (dD S) (f (cn - 1)))) p q l).length) (hfr : frS (dD S) 16 0 = -1) {Q : mO × mHp → Prop} (kk : ∀ I' A', Fr [14] I I' → Fr [3] A A' → Q (.inl (some (.int (-1))), hS n u I' A' J B mk sn L xs X)) : mq 65 0 [some (.ref 1), some (.ref 18), some (.ref 53), none] [] (hS n u I A J B mk sn L xs X) Q := by
  refine x_al1 (pc := 0) rfl rfl ?_
  refine g_18_5 (pc := 1) (v := nI cn) rfl rfl hc ?_
  refine x_ifN_le (pc := 4) (t := 46) rfl rfl (by omega) (fun c4 => ?_) (fun c4 => ?_)
  · refine x_al1 (pc := 46) rfl rfl ?_
    refine g_1_0 (pc := 47) rfl rfl ?_
    refine x_k (pc := 50) rfl rfl rfl ⟨Nat.le_of_ble_eq_true rfl, Nat.le_of_ble_eq_true rfl, Nat.le_of_ble_eq_true rfl⟩ rfl (mq_k (c_71 (I := I) (A := A) (D := dD S) hD.2.1) ?_)
    show mq 65 53 [some (.ref 1), some (.ref 18), some (.ref 53), none] [.int (frS (dD S) 16 0)] (hS n u I A J B mk sn L xs X) _
    refine x_top (y := (-1)) (hfr) ?_
    refine x_is1 (pc := 53) (ml' := [some (.ref 1), some (.ref 18), some (.ref 53), some (.int (-1))]) rfl rfl ?_
    refine x_il1 (pc := 54) rfl rfl ?_
    refine x_if_lt (pc := 55) (t := 103) rfl rfl rfl (fun _ => ?_) (fun c => absurd (by decide) c)
    refine x_il1 (pc := 103) rfl rfl ?_
    refine x_ret (pc := 104) rfl rfl ?_
    exact kk _ _ (Fr_refl _ _) (Fr_refl _ _)
  · refine x_al1 (pc := 7) rfl rfl ?_
    refine x_al1 (pc := 8) rfl rfl ?_
    refine x_k (pc := 9) rfl rfl rfl ⟨Nat.le_of_ble_eq_true rfl, Nat.le_of_ble_eq_true rfl, Nat.le_of_ble_eq_true rfl⟩ rfl (k_51_1 (I := I) (A := A) hcn hc hsl (by omega) ?_)
    show mq 65 12 [some (.ref 1), some (.ref 18), some (.ref 53), none] [.int (nI (f (cn - 1))), .ref 1] (hS n u I A J B mk sn L xs X) _
    refine x_al1 (pc := 12) rfl rfl ?_
    refine x_k (pc := 13) rfl rfl rfl ⟨Nat.le_of_ble_eq_true rfl, Nat.le_of_ble_eq_true rfl, Nat.le_of_ble_eq_true rfl⟩ rfl (k_66_2 (I := I) (A := A) (D := dD S) (l := l) (p := p) (q := q) hD.2.1 (hf _ (by omega)) hl1 hl4 hB (fun I1 A1 f1 g1 h1 => ?_))
    show mq 65 16 [some (.ref 1), some (.ref 18), some (.ref 53), none] [] (hS n u I1 A1 J B mk sn L xs X) _
    refine x_al1 (pc := 16) rfl rfl ?_
    refine g_1_0 (pc := 17) rfl rfl ?_
    refine x_al1 (pc := 20) rfl rfl ?_
    refine x_k (pc := 21) rfl rfl rfl ⟨Nat.le_of_ble_eq_true rfl, Nat.le_of_ble_eq_true rfl, Nat.le_of_ble_eq_true rfl⟩ rfl (k_51_1 (I := I1) (A := A1) hcn ((f1 43 (by decide)).trans hc) (fun j hj => by rw [g1 34 (by decide)]; exact hsl j hj) (by omega) ?_)
    show mq 65 24 [some (.ref 1), some (.ref 18), some (.ref 53), none] [.int (nI (f (cn - 1))), .ref 2] (hS n u I1 A1 J B mk sn L xs X) _
    refine x_k (pc := 24) rfl rfl rfl ⟨Nat.le_of_ble_eq_true rfl, Nat.le_of_ble_eq_true rfl, Nat.le_of_ble_eq_true rfl⟩ rfl (mq_k (c_37 (I := I1) (A := A1) (D := dD S) (by rw [g1 0 (by decide)]; exact hD.2.1) (hf _ (by omega))) ?_)
    show mq 65 27 [some (.ref 1), some (.ref 18), some (.ref 53), none] [.int (nI (mB (dD S) (f (cn - 1))))] (hS n u I1 A1 J B mk sn L xs X) _
    refine x_al1 (pc := 27) rfl rfl ?_
    refine g_1_7 (pc := 28) rfl rfl ?_
    refine g_49_1 (pc := 31) (v := nI ((eBt (nI (bB (dD S) (f (cn - 1)))) p q l).length)) rfl rfl h1.1 ?_
    refine x_iaddN (pc := 34) (c := (mB (dD S) (f (cn - 1))) + ((eBt (nI (bB (dD S) (f (cn - 1)))) p q l).length)) rfl rfl ?_
    refine x_const (pc := 35) (pc' := 38) (.int (nI 128)) rfl rfl rfl rfl ?_
    have hel := eBt_len (nI (bB (dD S) (f (cn - 1)))) p q l
    have hmb := mB_lt hD.2.1.2.1 (f (cn - 1))
    refine x_cmpN_gt (pc := 38) (t := 46) rfl rfl (by omega) (by omega) (fun c38 => ?_) (fun c38 => ?_)
    · refine x_al1 (pc := 46) rfl rfl ?_
      refine g_1_0 (pc := 47) rfl rfl ?_
      refine x_k (pc := 50) rfl rfl rfl ⟨Nat.le_of_ble_eq_true rfl, Nat.le_of_ble_eq_true rfl, Nat.le_of_ble_eq_true rfl⟩ rfl (mq_k (c_71 (I := I1) (A := A1) (D := dD S) (by rw [g1 0 (by decide)]; exact hD.2.1)) ?_)
      show mq 65 53 [some (.ref 1), some (.ref 18), some (.ref 53), none] [.int (frS (dD S) 16 0)] (hS n u I1 A1 J B mk sn L xs X) _
      refine x_top (y := (-1)) (hfr) ?_
      refine x_is1 (pc := 53) (ml' := [some (.ref 1), some (.ref 18), some (.ref 53), some (.int (-1))]) rfl rfl ?_
      refine x_il1 (pc := 54) rfl rfl ?_
      refine x_if_lt (pc := 55) (t := 103) rfl rfl rfl (fun _ => ?_) (fun c => absurd (by decide) c)
      refine x_il1 (pc := 103) rfl rfl ?_
      refine x_ret (pc := 104) rfl rfl ?_
      exact kk _ _ (Fr_cons (Fr_refl _ _) f1 (by decide)) (Fr_cons (Fr_refl _ _) g1 (by decide))
    · omega
set_option maxRecDepth 100000 in
set_option maxHeartbeats 4000000 in
theorem k_65b_1_2 {cn N : Nat} {f : Nat → Nat} {l : List R5} {p q : Int32} {S : DS} (hD : kD mk S I A) (ho : dO S = false) (hcn : cn ≤ 16) (hc : I 43 = nI cn) (hf : ∀ k, k < cn → f k < 16) (hsl : ∀ j, j < cn → A 34 j = nI (f j)) (hN : I 45 = nI N) (hNb : N + 4 < 2 ^ 31) (hB : BT 2 I A l p q) (hl1 : 1 ≤ l.length) (hl4 : l.length ≤ 4) (hnf : cn = 0 ∨ 128 < mB (dD S) (f (cn - 1)) + (eBt (nI (bB (dD S) (f (cn - 1)))) p q l).length) {s : Nat} (hs : s < 16) (hfr : frS (dD S) 16 0 = nI s) (hc16 : cn < 16) (hmk : mks mk sn) (hn : 77 ≤ n ∧ n < 10000) (hu : u + 6 < 1000000) {Q : mO × mHp → Prop} (kk : dO (wr1 S (hdW s 1 N)) = false → ∀ I' A', Fr [2, 3, 14, 15, 43] I I' → Fr [0, 3, 4, 34] A A' → kD mk (wr1 S (hdW s 1 N)) I' A' → I' 43 = nI (cn + 1) → A' 34 = upd (A 34) cn (nI s) → Q (.inl (some (.int (nI s))), hS n u I' A' J B mk sn L xs X)) (kx : dO (wr1 S (hdW s 1 N)) = true → ∀ I' A', Up 60 I I' → Up 50 A A' → kD mk (wr1 S (hdW s 1 N)) I' A' → Q (.inr n, hS (n + 1) (u + 6) I' A' J B mk sn L xs (va_up X n (.inr (9, []))))) : mq 65 0 [some (.ref 1), some (.ref 18), some (.ref 53), none] [] (hS n u I A J B mk sn L xs X) Q := by
  have ev : wr1 S (wi (128 * s) 32 (fun i => gB0 (hdr 8 2 0 N) (0 + i))) = wr1 S (hdW s 1 N) := wr1_ext (fun i _ => by rw [Nat.zero_add])
  refine x_al1 (pc := 0) rfl rfl ?_
  refine g_18_5 (pc := 1) (v := nI cn) rfl rfl hc ?_
  refine x_ifN_le (pc := 4) (t := 46) rfl rfl (by omega) (fun c4 => ?_) (fun c4 => ?_)
  · refine x_al1 (pc := 46) rfl rfl ?_
    refine g_1_0 (pc := 47) rfl rfl ?_
    refine x_k (pc := 50) rfl rfl rfl ⟨Nat.le_of_ble_eq_true rfl, Nat.le_of_ble_eq_true rfl, Nat.le_of_ble_eq_true rfl⟩ rfl (mq_k (c_71 (I := I) (A := A) (D := dD S) hD.2.1) ?_)
    show mq 65 53 [some (.ref 1), some (.ref 18), some (.ref 53), none] [.int (frS (dD S) 16 0)] (hS n u I A J B mk sn L xs X) _
    refine x_top (y := nI s) (hfr) ?_
    refine x_is1 (pc := 53) (ml' := [some (.ref 1), some (.ref 18), some (.ref 53), some (.int (nI s))]) rfl rfl ?_
    refine x_il1 (pc := 54) rfl rfl ?_
    refine x_ifN_lt (pc := 55) (t := 103) rfl rfl (by omega) ?_
    refine x_al1 (pc := 58) rfl rfl ?_
    refine g_1_8 (pc := 59) rfl rfl ?_
    refine x_const (pc := 62) (pc' := 64) (.int (nI 8)) rfl rfl rfl rfl ?_
    refine x_al1 (pc := 64) rfl rfl ?_
    refine g_18_0 (pc := 65) rfl rfl ?_
    refine x_const (pc := 68) (pc' := 69) (.int (nI 1)) rfl rfl rfl rfl ?_
    refine x_iaddN (pc := 69) (c := 2) rfl rfl ?_
    refine x_const (pc := 70) (pc' := 71) (.int (nI 0)) rfl rfl rfl rfl ?_
    refine x_al1 (pc := 71) rfl rfl ?_
    refine g_18_7 (pc := 72) (v := nI N) rfl rfl hN ?_
    refine x_k (pc := 75) rfl rfl rfl ⟨Nat.le_of_ble_eq_true rfl, Nat.le_of_ble_eq_true rfl, Nat.le_of_ble_eq_true rfl⟩ rfl (k_72_51 (I := I) (A := A) (m := 8) (o := 2) (g := 0) (b := N) (by decide) (by omega) (fun I2 A2 f2 g2 h2 => ?_))
    show mq 65 78 [some (.ref 1), some (.ref 18), some (.ref 53), some (.int (nI s))] [] (hS n u I2 A2 J B mk sn L xs X) _
    refine x_al1 (pc := 78) rfl rfl ?_
    refine x_il1 (pc := 79) rfl rfl ?_
    refine x_const (pc := 80) (pc' := 83) (.int (nI 128)) rfl rfl rfl rfl ?_
    refine x_imulV (pc := 83) (v := nI (128 * s)) rfl ((pk_mul _ _).trans (congrArg nI (Nat.mul_comm _ _))) ?_
    refine x_al1 (pc := 84) rfl rfl ?_
    refine g_1_8 (pc := 85) rfl rfl ?_
    refine x_const (pc := 88) (pc' := 89) (.int (nI 0)) rfl rfl rfl rfl ?_
    refine x_const (pc := 89) (pc' := 91) (.int (nI 32)) rfl rfl rfl rfl ?_
    refine x_k (pc := 91) rfl rfl rfl ⟨Nat.le_of_ble_eq_true rfl, Nat.le_of_ble_eq_true rfl, Nat.le_of_ble_eq_true rfl⟩ rfl (k_28_51 (I := I2) (A := A2) (S := S) (p := 128 * s) (f := 0) (c := 32) (t := hdr 8 2 0 N) (kD_on hD ho (show Fr [14, 15] I I2 from (Fr_cons (Fr_refl _ _) f2 (by decide))) (show Fr [3, 4] A A2 from (Fr_cons (Fr_refl _ _) g2 (by decide))) (by decide) (by decide)) ho hmk (gB0_by (hdr_by _ _ _ _)) (by omega) (by decide) h2 hn hu (fun o3 I3 A3 f3 g3 h3 => ?_) (fun o3 I3 A3 f3 g3 h3 => mK_x rfl (kx (ev ▸ o3) I3 A3 (Up_tr (Up_fr (show Fr [14, 15] I I2 from (Fr_cons (Fr_refl _ _) f2 (by decide))) (by decide)) f3) (Up_tr (Up_fr (show Fr [3, 4] A A2 from (Fr_cons (Fr_refl _ _) g2 (by decide))) (by decide)) g3) (ev ▸ h3))))
    show mq 65 94 [some (.ref 1), some (.ref 18), some (.ref 53), some (.int (nI s))] [] (hS n u I3 A3 J B mk sn L xs X) _
    refine x_al1 (pc := 94) rfl rfl ?_
    refine x_al1 (pc := 95) rfl rfl ?_
    refine g_18_5 (pc := 96) (v := nI cn) rfl rfl ((f3 43 (by decide)).trans ((f2 43 (by decide)).trans hc)) ?_
    refine x_il1 (pc := 99) rfl rfl ?_
    refine x_k (pc := 100) rfl rfl rfl ⟨Nat.le_of_ble_eq_true rfl, Nat.le_of_ble_eq_true rfl, Nat.le_of_ble_eq_true rfl⟩ rfl (k_34e_1 (I := I3) (A := A3) (cn := cn) (s := s) hc16 ((f3 43 (by decide)).trans ((f2 43 (by decide)).trans hc)) ?_)
    show mq 65 103 [some (.ref 1), some (.ref 18), some (.ref 53), some (.int (nI s))] [] (hS n u (va_up I3 43 (nI (cn + 1))) (va_up A3 34 (upd (A3 34) cn (nI s))) J B mk sn L xs X) _
    refine x_il1 (pc := 103) rfl rfl ?_
    refine x_ret (pc := 104) rfl rfl ?_
    exact kk (ev ▸ o3) _ _ (Fr_u (Fr_cons (Fr_cons (Fr_refl _ _) f2 (by decide)) f3 (by decide)) (by decide)) (Fr_u (Fr_cons (Fr_cons (Fr_refl _ _) g2 (by decide)) g3 (by decide)) (by decide)) (kD_on (ev ▸ h3) (ev ▸ o3) (Fr_up I3 43 _) (Fr_up A3 34 _) (by decide) (by decide)) rfl (show upd (A3 34) cn (nI s) = _ by rw [g3 34 (by decide), g2 34 (by decide)])
  · refine x_al1 (pc := 7) rfl rfl ?_
    refine x_al1 (pc := 8) rfl rfl ?_
    refine x_k (pc := 9) rfl rfl rfl ⟨Nat.le_of_ble_eq_true rfl, Nat.le_of_ble_eq_true rfl, Nat.le_of_ble_eq_true rfl⟩ rfl (k_51_1 (I := I) (A := A) hcn hc hsl (by omega) ?_)
    show mq 65 12 [some (.ref 1), some (.ref 18), some (.ref 53), none] [.int (nI (f (cn - 1))), .ref 1] (hS n u I A J B mk sn L xs X) _
    refine x_al1 (pc := 12) rfl rfl ?_
    refine x_k (pc := 13) rfl rfl rfl ⟨Nat.le_of_ble_eq_true rfl, Nat.le_of_ble_eq_true rfl, Nat.le_of_ble_eq_true rfl⟩ rfl (k_66_2 (I := I) (A := A) (D := dD S) (l := l) (p := p) (q := q) hD.2.1 (hf _ (by omega)) hl1 hl4 hB (fun I1 A1 f1 g1 h1 => ?_))
    show mq 65 16 [some (.ref 1), some (.ref 18), some (.ref 53), none] [] (hS n u I1 A1 J B mk sn L xs X) _
    refine x_al1 (pc := 16) rfl rfl ?_
    refine g_1_0 (pc := 17) rfl rfl ?_
    refine x_al1 (pc := 20) rfl rfl ?_
    refine x_k (pc := 21) rfl rfl rfl ⟨Nat.le_of_ble_eq_true rfl, Nat.le_of_ble_eq_true rfl, Nat.le_of_ble_eq_true rfl⟩ rfl (k_51_1 (I := I1) (A := A1) hcn ((f1 43 (by decide)).trans hc) (fun j hj => by rw [g1 34 (by decide)]; exact hsl j hj) (by omega) ?_)
    show mq 65 24 [some (.ref 1), some (.ref 18), some (.ref 53), none] [.int (nI (f (cn - 1))), .ref 2] (hS n u I1 A1 J B mk sn L xs X) _
    refine x_k (pc := 24) rfl rfl rfl ⟨Nat.le_of_ble_eq_true rfl, Nat.le_of_ble_eq_true rfl, Nat.le_of_ble_eq_true rfl⟩ rfl (mq_k (c_37 (I := I1) (A := A1) (D := dD S) (by rw [g1 0 (by decide)]; exact hD.2.1) (hf _ (by omega))) ?_)
    show mq 65 27 [some (.ref 1), some (.ref 18), some (.ref 53), none] [.int (nI (mB (dD S) (f (cn - 1))))] (hS n u I1 A1 J B mk sn L xs X) _
    refine x_al1 (pc := 27) rfl rfl ?_
    refine g_1_7 (pc := 28) rfl rfl ?_
    refine g_49_1 (pc := 31) (v := nI ((eBt (nI (bB (dD S) (f (cn - 1)))) p q l).length)) rfl rfl h1.1 ?_
    refine x_iaddN (pc := 34) (c := (mB (dD S) (f (cn - 1))) + ((eBt (nI (bB (dD S) (f (cn - 1)))) p q l).length)) rfl rfl ?_
    refine x_const (pc := 35) (pc' := 38) (.int (nI 128)) rfl rfl rfl rfl ?_
    have hel := eBt_len (nI (bB (dD S) (f (cn - 1)))) p q l
    have hmb := mB_lt hD.2.1.2.1 (f (cn - 1))
    refine x_cmpN_gt (pc := 38) (t := 46) rfl rfl (by omega) (by omega) (fun c38 => ?_) (fun c38 => ?_)
    · refine x_al1 (pc := 46) rfl rfl ?_
      refine g_1_0 (pc := 47) rfl rfl ?_
      refine x_k (pc := 50) rfl rfl rfl ⟨Nat.le_of_ble_eq_true rfl, Nat.le_of_ble_eq_true rfl, Nat.le_of_ble_eq_true rfl⟩ rfl (mq_k (c_71 (I := I1) (A := A1) (D := dD S) (by rw [g1 0 (by decide)]; exact hD.2.1)) ?_)
      show mq 65 53 [some (.ref 1), some (.ref 18), some (.ref 53), none] [.int (frS (dD S) 16 0)] (hS n u I1 A1 J B mk sn L xs X) _
      refine x_top (y := nI s) (hfr) ?_
      refine x_is1 (pc := 53) (ml' := [some (.ref 1), some (.ref 18), some (.ref 53), some (.int (nI s))]) rfl rfl ?_
      refine x_il1 (pc := 54) rfl rfl ?_
      refine x_ifN_lt (pc := 55) (t := 103) rfl rfl (by omega) ?_
      refine x_al1 (pc := 58) rfl rfl ?_
      refine g_1_8 (pc := 59) rfl rfl ?_
      refine x_const (pc := 62) (pc' := 64) (.int (nI 8)) rfl rfl rfl rfl ?_
      refine x_al1 (pc := 64) rfl rfl ?_
      refine g_18_0 (pc := 65) rfl rfl ?_
      refine x_const (pc := 68) (pc' := 69) (.int (nI 1)) rfl rfl rfl rfl ?_
      refine x_iaddN (pc := 69) (c := 2) rfl rfl ?_
      refine x_const (pc := 70) (pc' := 71) (.int (nI 0)) rfl rfl rfl rfl ?_
      refine x_al1 (pc := 71) rfl rfl ?_
      refine g_18_7 (pc := 72) (v := nI N) rfl rfl ((f1 45 (by decide)).trans hN) ?_
      refine x_k (pc := 75) rfl rfl rfl ⟨Nat.le_of_ble_eq_true rfl, Nat.le_of_ble_eq_true rfl, Nat.le_of_ble_eq_true rfl⟩ rfl (k_72_51 (I := I1) (A := A1) (m := 8) (o := 2) (g := 0) (b := N) (by decide) (by omega) (fun I2 A2 f2 g2 h2 => ?_))
      show mq 65 78 [some (.ref 1), some (.ref 18), some (.ref 53), some (.int (nI s))] [] (hS n u I2 A2 J B mk sn L xs X) _
      refine x_al1 (pc := 78) rfl rfl ?_
      refine x_il1 (pc := 79) rfl rfl ?_
      refine x_const (pc := 80) (pc' := 83) (.int (nI 128)) rfl rfl rfl rfl ?_
      refine x_imulV (pc := 83) (v := nI (128 * s)) rfl ((pk_mul _ _).trans (congrArg nI (Nat.mul_comm _ _))) ?_
      refine x_al1 (pc := 84) rfl rfl ?_
      refine g_1_8 (pc := 85) rfl rfl ?_
      refine x_const (pc := 88) (pc' := 89) (.int (nI 0)) rfl rfl rfl rfl ?_
      refine x_const (pc := 89) (pc' := 91) (.int (nI 32)) rfl rfl rfl rfl ?_
      refine x_k (pc := 91) rfl rfl rfl ⟨Nat.le_of_ble_eq_true rfl, Nat.le_of_ble_eq_true rfl, Nat.le_of_ble_eq_true rfl⟩ rfl (k_28_51 (I := I2) (A := A2) (S := S) (p := 128 * s) (f := 0) (c := 32) (t := hdr 8 2 0 N) (kD_on hD ho (show Fr [14, 15] I I2 from (Fr_cons (Fr_cons (Fr_refl _ _) f1 (by decide)) f2 (by decide))) (show Fr [3, 4] A A2 from (Fr_cons (Fr_cons (Fr_refl _ _) g1 (by decide)) g2 (by decide))) (by decide) (by decide)) ho hmk (gB0_by (hdr_by _ _ _ _)) (by omega) (by decide) h2 hn hu (fun o3 I3 A3 f3 g3 h3 => ?_) (fun o3 I3 A3 f3 g3 h3 => mK_x rfl (kx (ev ▸ o3) I3 A3 (Up_tr (Up_fr (show Fr [14, 15] I I2 from (Fr_cons (Fr_cons (Fr_refl _ _) f1 (by decide)) f2 (by decide))) (by decide)) f3) (Up_tr (Up_fr (show Fr [3, 4] A A2 from (Fr_cons (Fr_cons (Fr_refl _ _) g1 (by decide)) g2 (by decide))) (by decide)) g3) (ev ▸ h3))))
      show mq 65 94 [some (.ref 1), some (.ref 18), some (.ref 53), some (.int (nI s))] [] (hS n u I3 A3 J B mk sn L xs X) _
      refine x_al1 (pc := 94) rfl rfl ?_
      refine x_al1 (pc := 95) rfl rfl ?_
      refine g_18_5 (pc := 96) (v := nI cn) rfl rfl ((f3 43 (by decide)).trans ((f2 43 (by decide)).trans ((f1 43 (by decide)).trans hc))) ?_
      refine x_il1 (pc := 99) rfl rfl ?_
      refine x_k (pc := 100) rfl rfl rfl ⟨Nat.le_of_ble_eq_true rfl, Nat.le_of_ble_eq_true rfl, Nat.le_of_ble_eq_true rfl⟩ rfl (k_34e_1 (I := I3) (A := A3) (cn := cn) (s := s) hc16 ((f3 43 (by decide)).trans ((f2 43 (by decide)).trans ((f1 43 (by decide)).trans hc))) ?_)
      show mq 65 103 [some (.ref 1), some (.ref 18), some (.ref 53), some (.int (nI s))] [] (hS n u (va_up I3 43 (nI (cn + 1))) (va_up A3 34 (upd (A3 34) cn (nI s))) J B mk sn L xs X) _
      refine x_il1 (pc := 103) rfl rfl ?_
      refine x_ret (pc := 104) rfl rfl ?_
      exact kk (ev ▸ o3) _ _ (Fr_u (Fr_cons (Fr_cons (Fr_cons (Fr_refl _ _) f1 (by decide)) f2 (by decide)) f3 (by decide)) (by decide)) (Fr_u (Fr_cons (Fr_cons (Fr_cons (Fr_refl _ _) g1 (by decide)) g2 (by decide)) g3 (by decide)) (by decide)) (kD_on (ev ▸ h3) (ev ▸ o3) (Fr_up I3 43 _) (Fr_up A3 34 _) (by decide) (by decide)) rfl (show upd (A3 34) cn (nI s) = _ by rw [g3 34 (by decide), g2 34 (by decide), g1 34 (by decide)])
    · omega
set_option maxRecDepth 100000 in
set_option maxHeartbeats 4000000 in
theorem k_65a_1_3 {cn N : Nat} {f : Nat → Nat} {l : List R5} {p q : Int32} {S : DS} (hD : kD mk S I A) (ho : dO S = false) (hcn : cn ≤ 16) (hc : I 43 = nI cn) (hf : ∀ k, k < cn → f k < 16) (hsl : ∀ j, j < cn → A 34 j = nI (f j)) (hN : I 45 = nI N) (hNb : N + 4 < 2 ^ 31) (hB : BT 3 I A l p q) (hl1 : 1 ≤ l.length) (hl4 : l.length ≤ 4) (hp : 0 < cn) (hfit : mB (dD S) (f (cn - 1)) + (eBt (nI (bB (dD S) (f (cn - 1)))) p q l).length ≤ 128) {Q : mO × mHp → Prop} (kk : ∀ I' A', Fr [14] I I' → Fr [3] A A' → Q (.inl (some (.int (nI (f (cn - 1))))), hS n u I' A' J B mk sn L xs X)) : mq 65 0 [some (.ref 1), some (.ref 18), some (.ref 60), none] [] (hS n u I A J B mk sn L xs X) Q := by
  refine x_al1 (pc := 0) rfl rfl ?_
  refine g_18_5 (pc := 1) (v := nI cn) rfl rfl hc ?_
  refine x_ifN_le (pc := 4) (t := 46) rfl rfl (by omega) (fun c4 => ?_) (fun c4 => ?_)
  · omega
  · refine x_al1 (pc := 7) rfl rfl ?_
    refine x_al1 (pc := 8) rfl rfl ?_
    refine x_k (pc := 9) rfl rfl rfl ⟨Nat.le_of_ble_eq_true rfl, Nat.le_of_ble_eq_true rfl, Nat.le_of_ble_eq_true rfl⟩ rfl (k_51_1 (I := I) (A := A) hcn hc hsl (by omega) ?_)
    show mq 65 12 [some (.ref 1), some (.ref 18), some (.ref 60), none] [.int (nI (f (cn - 1))), .ref 1] (hS n u I A J B mk sn L xs X) _
    refine x_al1 (pc := 12) rfl rfl ?_
    refine x_k (pc := 13) rfl rfl rfl ⟨Nat.le_of_ble_eq_true rfl, Nat.le_of_ble_eq_true rfl, Nat.le_of_ble_eq_true rfl⟩ rfl (k_66_3 (I := I) (A := A) (D := dD S) (l := l) (p := p) (q := q) hD.2.1 (hf _ (by omega)) hl1 hl4 hB (fun I1 A1 f1 g1 h1 => ?_))
    show mq 65 16 [some (.ref 1), some (.ref 18), some (.ref 60), none] [] (hS n u I1 A1 J B mk sn L xs X) _
    refine x_al1 (pc := 16) rfl rfl ?_
    refine g_1_0 (pc := 17) rfl rfl ?_
    refine x_al1 (pc := 20) rfl rfl ?_
    refine x_k (pc := 21) rfl rfl rfl ⟨Nat.le_of_ble_eq_true rfl, Nat.le_of_ble_eq_true rfl, Nat.le_of_ble_eq_true rfl⟩ rfl (k_51_1 (I := I1) (A := A1) hcn ((f1 43 (by decide)).trans hc) (fun j hj => by rw [g1 34 (by decide)]; exact hsl j hj) (by omega) ?_)
    show mq 65 24 [some (.ref 1), some (.ref 18), some (.ref 60), none] [.int (nI (f (cn - 1))), .ref 2] (hS n u I1 A1 J B mk sn L xs X) _
    refine x_k (pc := 24) rfl rfl rfl ⟨Nat.le_of_ble_eq_true rfl, Nat.le_of_ble_eq_true rfl, Nat.le_of_ble_eq_true rfl⟩ rfl (mq_k (c_37 (I := I1) (A := A1) (D := dD S) (by rw [g1 0 (by decide)]; exact hD.2.1) (hf _ (by omega))) ?_)
    show mq 65 27 [some (.ref 1), some (.ref 18), some (.ref 60), none] [.int (nI (mB (dD S) (f (cn - 1))))] (hS n u I1 A1 J B mk sn L xs X) _
    refine x_al1 (pc := 27) rfl rfl ?_
    refine g_1_7 (pc := 28) rfl rfl ?_
    refine g_49_1 (pc := 31) (v := nI ((eBt (nI (bB (dD S) (f (cn - 1)))) p q l).length)) rfl rfl h1.1 ?_
    refine x_iaddN (pc := 34) (c := (mB (dD S) (f (cn - 1))) + ((eBt (nI (bB (dD S) (f (cn - 1)))) p q l).length)) rfl rfl ?_
    refine x_const (pc := 35) (pc' := 38) (.int (nI 128)) rfl rfl rfl rfl ?_
    have hel := eBt_len (nI (bB (dD S) (f (cn - 1)))) p q l
    have hmb := mB_lt hD.2.1.2.1 (f (cn - 1))
    refine x_cmpN_gt (pc := 38) (t := 46) rfl rfl (by omega) (by omega) (fun c38 => ?_) (fun c38 => ?_)
    · omega
    · refine x_al1 (pc := 41) rfl rfl ?_
      refine x_k (pc := 42) rfl rfl rfl ⟨Nat.le_of_ble_eq_true rfl, Nat.le_of_ble_eq_true rfl, Nat.le_of_ble_eq_true rfl⟩ rfl (k_51_1 (I := I1) (A := A1) hcn ((f1 43 (by decide)).trans hc) (fun j hj => by rw [g1 34 (by decide)]; exact hsl j hj) (by omega) ?_)
      show mq 65 45 [some (.ref 1), some (.ref 18), some (.ref 60), none] [.int (nI (f (cn - 1)))] (hS n u I1 A1 J B mk sn L xs X) _
      refine x_ret (pc := 45) rfl rfl ?_
      exact kk _ _ (Fr_cons (Fr_refl _ _) f1 (by decide)) (Fr_cons (Fr_refl _ _) g1 (by decide))
set_option maxRecDepth 100000 in
set_option maxHeartbeats 4000000 in
theorem k_65c_1_3 {cn N : Nat} {f : Nat → Nat} {l : List R5} {p q : Int32} {S : DS} (hD : kD mk S I A) (ho : dO S = false) (hcn : cn ≤ 16) (hc : I 43 = nI cn) (hf : ∀ k, k < cn → f k < 16) (hsl : ∀ j, j < cn → A 34 j = nI (f j)) (hN : I 45 = nI N) (hNb : N + 4 < 2 ^ 31) (hB : BT 3 I A l p q) (hl1 : 1 ≤ l.length) (hl4 : l.length ≤ 4) (hnf : cn = 0 ∨ 128 < mB (dD S) (f (cn - 1)) + (eBt (nI (bB (dD S) (f (cn - 1)))) p q l).length) (hfr : frS (dD S) 16 0 = -1) {Q : mO × mHp → Prop} (kk : ∀ I' A', Fr [14] I I' → Fr [3] A A' → Q (.inl (some (.int (-1))), hS n u I' A' J B mk sn L xs X)) : mq 65 0 [some (.ref 1), some (.ref 18), some (.ref 60), none] [] (hS n u I A J B mk sn L xs X) Q := by
  refine x_al1 (pc := 0) rfl rfl ?_
  refine g_18_5 (pc := 1) (v := nI cn) rfl rfl hc ?_
  refine x_ifN_le (pc := 4) (t := 46) rfl rfl (by omega) (fun c4 => ?_) (fun c4 => ?_)
  · refine x_al1 (pc := 46) rfl rfl ?_
    refine g_1_0 (pc := 47) rfl rfl ?_
    refine x_k (pc := 50) rfl rfl rfl ⟨Nat.le_of_ble_eq_true rfl, Nat.le_of_ble_eq_true rfl, Nat.le_of_ble_eq_true rfl⟩ rfl (mq_k (c_71 (I := I) (A := A) (D := dD S) hD.2.1) ?_)
    show mq 65 53 [some (.ref 1), some (.ref 18), some (.ref 60), none] [.int (frS (dD S) 16 0)] (hS n u I A J B mk sn L xs X) _
    refine x_top (y := (-1)) (hfr) ?_
    refine x_is1 (pc := 53) (ml' := [some (.ref 1), some (.ref 18), some (.ref 60), some (.int (-1))]) rfl rfl ?_
    refine x_il1 (pc := 54) rfl rfl ?_
    refine x_if_lt (pc := 55) (t := 103) rfl rfl rfl (fun _ => ?_) (fun c => absurd (by decide) c)
    refine x_il1 (pc := 103) rfl rfl ?_
    refine x_ret (pc := 104) rfl rfl ?_
    exact kk _ _ (Fr_refl _ _) (Fr_refl _ _)
  · refine x_al1 (pc := 7) rfl rfl ?_
    refine x_al1 (pc := 8) rfl rfl ?_
    refine x_k (pc := 9) rfl rfl rfl ⟨Nat.le_of_ble_eq_true rfl, Nat.le_of_ble_eq_true rfl, Nat.le_of_ble_eq_true rfl⟩ rfl (k_51_1 (I := I) (A := A) hcn hc hsl (by omega) ?_)
    show mq 65 12 [some (.ref 1), some (.ref 18), some (.ref 60), none] [.int (nI (f (cn - 1))), .ref 1] (hS n u I A J B mk sn L xs X) _
    refine x_al1 (pc := 12) rfl rfl ?_
    refine x_k (pc := 13) rfl rfl rfl ⟨Nat.le_of_ble_eq_true rfl, Nat.le_of_ble_eq_true rfl, Nat.le_of_ble_eq_true rfl⟩ rfl (k_66_3 (I := I) (A := A) (D := dD S) (l := l) (p := p) (q := q) hD.2.1 (hf _ (by omega)) hl1 hl4 hB (fun I1 A1 f1 g1 h1 => ?_))
    show mq 65 16 [some (.ref 1), some (.ref 18), some (.ref 60), none] [] (hS n u I1 A1 J B mk sn L xs X) _
    refine x_al1 (pc := 16) rfl rfl ?_
    refine g_1_0 (pc := 17) rfl rfl ?_
    refine x_al1 (pc := 20) rfl rfl ?_
    refine x_k (pc := 21) rfl rfl rfl ⟨Nat.le_of_ble_eq_true rfl, Nat.le_of_ble_eq_true rfl, Nat.le_of_ble_eq_true rfl⟩ rfl (k_51_1 (I := I1) (A := A1) hcn ((f1 43 (by decide)).trans hc) (fun j hj => by rw [g1 34 (by decide)]; exact hsl j hj) (by omega) ?_)
    show mq 65 24 [some (.ref 1), some (.ref 18), some (.ref 60), none] [.int (nI (f (cn - 1))), .ref 2] (hS n u I1 A1 J B mk sn L xs X) _
    refine x_k (pc := 24) rfl rfl rfl ⟨Nat.le_of_ble_eq_true rfl, Nat.le_of_ble_eq_true rfl, Nat.le_of_ble_eq_true rfl⟩ rfl (mq_k (c_37 (I := I1) (A := A1) (D := dD S) (by rw [g1 0 (by decide)]; exact hD.2.1) (hf _ (by omega))) ?_)
    show mq 65 27 [some (.ref 1), some (.ref 18), some (.ref 60), none] [.int (nI (mB (dD S) (f (cn - 1))))] (hS n u I1 A1 J B mk sn L xs X) _
    refine x_al1 (pc := 27) rfl rfl ?_
    refine g_1_7 (pc := 28) rfl rfl ?_
    refine g_49_1 (pc := 31) (v := nI ((eBt (nI (bB (dD S) (f (cn - 1)))) p q l).length)) rfl rfl h1.1 ?_
    refine x_iaddN (pc := 34) (c := (mB (dD S) (f (cn - 1))) + ((eBt (nI (bB (dD S) (f (cn - 1)))) p q l).length)) rfl rfl ?_
    refine x_const (pc := 35) (pc' := 38) (.int (nI 128)) rfl rfl rfl rfl ?_
    have hel := eBt_len (nI (bB (dD S) (f (cn - 1)))) p q l
    have hmb := mB_lt hD.2.1.2.1 (f (cn - 1))
    refine x_cmpN_gt (pc := 38) (t := 46) rfl rfl (by omega) (by omega) (fun c38 => ?_) (fun c38 => ?_)
    · refine x_al1 (pc := 46) rfl rfl ?_
      refine g_1_0 (pc := 47) rfl rfl ?_
      refine x_k (pc := 50) rfl rfl rfl ⟨Nat.le_of_ble_eq_true rfl, Nat.le_of_ble_eq_true rfl, Nat.le_of_ble_eq_true rfl⟩ rfl (mq_k (c_71 (I := I1) (A := A1) (D := dD S) (by rw [g1 0 (by decide)]; exact hD.2.1)) ?_)
      show mq 65 53 [some (.ref 1), some (.ref 18), some (.ref 60), none] [.int (frS (dD S) 16 0)] (hS n u I1 A1 J B mk sn L xs X) _
      refine x_top (y := (-1)) (hfr) ?_
      refine x_is1 (pc := 53) (ml' := [some (.ref 1), some (.ref 18), some (.ref 60), some (.int (-1))]) rfl rfl ?_
      refine x_il1 (pc := 54) rfl rfl ?_
      refine x_if_lt (pc := 55) (t := 103) rfl rfl rfl (fun _ => ?_) (fun c => absurd (by decide) c)
      refine x_il1 (pc := 103) rfl rfl ?_
      refine x_ret (pc := 104) rfl rfl ?_
      exact kk _ _ (Fr_cons (Fr_refl _ _) f1 (by decide)) (Fr_cons (Fr_refl _ _) g1 (by decide))
    · omega
set_option maxRecDepth 100000 in
set_option maxHeartbeats 4000000 in
theorem k_65b_1_3 {cn N : Nat} {f : Nat → Nat} {l : List R5} {p q : Int32} {S : DS} (hD : kD mk S I A) (ho : dO S = false) (hcn : cn ≤ 16) (hc : I 43 = nI cn) (hf : ∀ k, k < cn → f k < 16) (hsl : ∀ j, j < cn → A 34 j = nI (f j)) (hN : I 45 = nI N) (hNb : N + 4 < 2 ^ 31) (hB : BT 3 I A l p q) (hl1 : 1 ≤ l.length) (hl4 : l.length ≤ 4) (hnf : cn = 0 ∨ 128 < mB (dD S) (f (cn - 1)) + (eBt (nI (bB (dD S) (f (cn - 1)))) p q l).length) {s : Nat} (hs : s < 16) (hfr : frS (dD S) 16 0 = nI s) (hc16 : cn < 16) (hmk : mks mk sn) (hn : 77 ≤ n ∧ n < 10000) (hu : u + 6 < 1000000) {Q : mO × mHp → Prop} (kk : dO (wr1 S (hdW s 1 N)) = false → ∀ I' A', Fr [2, 3, 14, 15, 43] I I' → Fr [0, 3, 4, 34] A A' → kD mk (wr1 S (hdW s 1 N)) I' A' → I' 43 = nI (cn + 1) → A' 34 = upd (A 34) cn (nI s) → Q (.inl (some (.int (nI s))), hS n u I' A' J B mk sn L xs X)) (kx : dO (wr1 S (hdW s 1 N)) = true → ∀ I' A', Up 60 I I' → Up 50 A A' → kD mk (wr1 S (hdW s 1 N)) I' A' → Q (.inr n, hS (n + 1) (u + 6) I' A' J B mk sn L xs (va_up X n (.inr (9, []))))) : mq 65 0 [some (.ref 1), some (.ref 18), some (.ref 60), none] [] (hS n u I A J B mk sn L xs X) Q := by
  have ev : wr1 S (wi (128 * s) 32 (fun i => gB0 (hdr 8 2 0 N) (0 + i))) = wr1 S (hdW s 1 N) := wr1_ext (fun i _ => by rw [Nat.zero_add])
  refine x_al1 (pc := 0) rfl rfl ?_
  refine g_18_5 (pc := 1) (v := nI cn) rfl rfl hc ?_
  refine x_ifN_le (pc := 4) (t := 46) rfl rfl (by omega) (fun c4 => ?_) (fun c4 => ?_)
  · refine x_al1 (pc := 46) rfl rfl ?_
    refine g_1_0 (pc := 47) rfl rfl ?_
    refine x_k (pc := 50) rfl rfl rfl ⟨Nat.le_of_ble_eq_true rfl, Nat.le_of_ble_eq_true rfl, Nat.le_of_ble_eq_true rfl⟩ rfl (mq_k (c_71 (I := I) (A := A) (D := dD S) hD.2.1) ?_)
    show mq 65 53 [some (.ref 1), some (.ref 18), some (.ref 60), none] [.int (frS (dD S) 16 0)] (hS n u I A J B mk sn L xs X) _
    refine x_top (y := nI s) (hfr) ?_
    refine x_is1 (pc := 53) (ml' := [some (.ref 1), some (.ref 18), some (.ref 60), some (.int (nI s))]) rfl rfl ?_
    refine x_il1 (pc := 54) rfl rfl ?_
    refine x_ifN_lt (pc := 55) (t := 103) rfl rfl (by omega) ?_
    refine x_al1 (pc := 58) rfl rfl ?_
    refine g_1_8 (pc := 59) rfl rfl ?_
    refine x_const (pc := 62) (pc' := 64) (.int (nI 8)) rfl rfl rfl rfl ?_
    refine x_al1 (pc := 64) rfl rfl ?_
    refine g_18_0 (pc := 65) rfl rfl ?_
    refine x_const (pc := 68) (pc' := 69) (.int (nI 1)) rfl rfl rfl rfl ?_
    refine x_iaddN (pc := 69) (c := 2) rfl rfl ?_
    refine x_const (pc := 70) (pc' := 71) (.int (nI 0)) rfl rfl rfl rfl ?_
    refine x_al1 (pc := 71) rfl rfl ?_
    refine g_18_7 (pc := 72) (v := nI N) rfl rfl hN ?_
    refine x_k (pc := 75) rfl rfl rfl ⟨Nat.le_of_ble_eq_true rfl, Nat.le_of_ble_eq_true rfl, Nat.le_of_ble_eq_true rfl⟩ rfl (k_72_51 (I := I) (A := A) (m := 8) (o := 2) (g := 0) (b := N) (by decide) (by omega) (fun I2 A2 f2 g2 h2 => ?_))
    show mq 65 78 [some (.ref 1), some (.ref 18), some (.ref 60), some (.int (nI s))] [] (hS n u I2 A2 J B mk sn L xs X) _
    refine x_al1 (pc := 78) rfl rfl ?_
    refine x_il1 (pc := 79) rfl rfl ?_
    refine x_const (pc := 80) (pc' := 83) (.int (nI 128)) rfl rfl rfl rfl ?_
    refine x_imulV (pc := 83) (v := nI (128 * s)) rfl ((pk_mul _ _).trans (congrArg nI (Nat.mul_comm _ _))) ?_
    refine x_al1 (pc := 84) rfl rfl ?_
    refine g_1_8 (pc := 85) rfl rfl ?_
    refine x_const (pc := 88) (pc' := 89) (.int (nI 0)) rfl rfl rfl rfl ?_
    refine x_const (pc := 89) (pc' := 91) (.int (nI 32)) rfl rfl rfl rfl ?_
    refine x_k (pc := 91) rfl rfl rfl ⟨Nat.le_of_ble_eq_true rfl, Nat.le_of_ble_eq_true rfl, Nat.le_of_ble_eq_true rfl⟩ rfl (k_28_51 (I := I2) (A := A2) (S := S) (p := 128 * s) (f := 0) (c := 32) (t := hdr 8 2 0 N) (kD_on hD ho (show Fr [14, 15] I I2 from (Fr_cons (Fr_refl _ _) f2 (by decide))) (show Fr [3, 4] A A2 from (Fr_cons (Fr_refl _ _) g2 (by decide))) (by decide) (by decide)) ho hmk (gB0_by (hdr_by _ _ _ _)) (by omega) (by decide) h2 hn hu (fun o3 I3 A3 f3 g3 h3 => ?_) (fun o3 I3 A3 f3 g3 h3 => mK_x rfl (kx (ev ▸ o3) I3 A3 (Up_tr (Up_fr (show Fr [14, 15] I I2 from (Fr_cons (Fr_refl _ _) f2 (by decide))) (by decide)) f3) (Up_tr (Up_fr (show Fr [3, 4] A A2 from (Fr_cons (Fr_refl _ _) g2 (by decide))) (by decide)) g3) (ev ▸ h3))))
    show mq 65 94 [some (.ref 1), some (.ref 18), some (.ref 60), some (.int (nI s))] [] (hS n u I3 A3 J B mk sn L xs X) _
    refine x_al1 (pc := 94) rfl rfl ?_
    refine x_al1 (pc := 95) rfl rfl ?_
    refine g_18_5 (pc := 96) (v := nI cn) rfl rfl ((f3 43 (by decide)).trans ((f2 43 (by decide)).trans hc)) ?_
    refine x_il1 (pc := 99) rfl rfl ?_
    refine x_k (pc := 100) rfl rfl rfl ⟨Nat.le_of_ble_eq_true rfl, Nat.le_of_ble_eq_true rfl, Nat.le_of_ble_eq_true rfl⟩ rfl (k_34e_1 (I := I3) (A := A3) (cn := cn) (s := s) hc16 ((f3 43 (by decide)).trans ((f2 43 (by decide)).trans hc)) ?_)
    show mq 65 103 [some (.ref 1), some (.ref 18), some (.ref 60), some (.int (nI s))] [] (hS n u (va_up I3 43 (nI (cn + 1))) (va_up A3 34 (upd (A3 34) cn (nI s))) J B mk sn L xs X) _
    refine x_il1 (pc := 103) rfl rfl ?_
    refine x_ret (pc := 104) rfl rfl ?_
    exact kk (ev ▸ o3) _ _ (Fr_u (Fr_cons (Fr_cons (Fr_refl _ _) f2 (by decide)) f3 (by decide)) (by decide)) (Fr_u (Fr_cons (Fr_cons (Fr_refl _ _) g2 (by decide)) g3 (by decide)) (by decide)) (kD_on (ev ▸ h3) (ev ▸ o3) (Fr_up I3 43 _) (Fr_up A3 34 _) (by decide) (by decide)) rfl (show upd (A3 34) cn (nI s) = _ by rw [g3 34 (by decide), g2 34 (by decide)])
  · refine x_al1 (pc := 7) rfl rfl ?_
    refine x_al1 (pc := 8) rfl rfl ?_
    refine x_k (pc := 9) rfl rfl rfl ⟨Nat.le_of_ble_eq_true rfl, Nat.le_of_ble_eq_true rfl, Nat.le_of_ble_eq_true rfl⟩ rfl (k_51_1 (I := I) (A := A) hcn hc hsl (by omega) ?_)
    show mq 65 12 [some (.ref 1), some (.ref 18), some (.ref 60), none] [.int (nI (f (cn - 1))), .ref 1] (hS n u I A J B mk sn L xs X) _
    refine x_al1 (pc := 12) rfl rfl ?_
    refine x_k (pc := 13) rfl rfl rfl ⟨Nat.le_of_ble_eq_true rfl, Nat.le_of_ble_eq_true rfl, Nat.le_of_ble_eq_true rfl⟩ rfl (k_66_3 (I := I) (A := A) (D := dD S) (l := l) (p := p) (q := q) hD.2.1 (hf _ (by omega)) hl1 hl4 hB (fun I1 A1 f1 g1 h1 => ?_))
    show mq 65 16 [some (.ref 1), some (.ref 18), some (.ref 60), none] [] (hS n u I1 A1 J B mk sn L xs X) _
    refine x_al1 (pc := 16) rfl rfl ?_
    refine g_1_0 (pc := 17) rfl rfl ?_
    refine x_al1 (pc := 20) rfl rfl ?_
    refine x_k (pc := 21) rfl rfl rfl ⟨Nat.le_of_ble_eq_true rfl, Nat.le_of_ble_eq_true rfl, Nat.le_of_ble_eq_true rfl⟩ rfl (k_51_1 (I := I1) (A := A1) hcn ((f1 43 (by decide)).trans hc) (fun j hj => by rw [g1 34 (by decide)]; exact hsl j hj) (by omega) ?_)
    show mq 65 24 [some (.ref 1), some (.ref 18), some (.ref 60), none] [.int (nI (f (cn - 1))), .ref 2] (hS n u I1 A1 J B mk sn L xs X) _
    refine x_k (pc := 24) rfl rfl rfl ⟨Nat.le_of_ble_eq_true rfl, Nat.le_of_ble_eq_true rfl, Nat.le_of_ble_eq_true rfl⟩ rfl (mq_k (c_37 (I := I1) (A := A1) (D := dD S) (by rw [g1 0 (by decide)]; exact hD.2.1) (hf _ (by omega))) ?_)
    show mq 65 27 [some (.ref 1), some (.ref 18), some (.ref 60), none] [.int (nI (mB (dD S) (f (cn - 1))))] (hS n u I1 A1 J B mk sn L xs X) _
    refine x_al1 (pc := 27) rfl rfl ?_
    refine g_1_7 (pc := 28) rfl rfl ?_
    refine g_49_1 (pc := 31) (v := nI ((eBt (nI (bB (dD S) (f (cn - 1)))) p q l).length)) rfl rfl h1.1 ?_
    refine x_iaddN (pc := 34) (c := (mB (dD S) (f (cn - 1))) + ((eBt (nI (bB (dD S) (f (cn - 1)))) p q l).length)) rfl rfl ?_
    refine x_const (pc := 35) (pc' := 38) (.int (nI 128)) rfl rfl rfl rfl ?_
    have hel := eBt_len (nI (bB (dD S) (f (cn - 1)))) p q l
    have hmb := mB_lt hD.2.1.2.1 (f (cn - 1))
    refine x_cmpN_gt (pc := 38) (t := 46) rfl rfl (by omega) (by omega) (fun c38 => ?_) (fun c38 => ?_)
    · refine x_al1 (pc := 46) rfl rfl ?_
      refine g_1_0 (pc := 47) rfl rfl ?_
      refine x_k (pc := 50) rfl rfl rfl ⟨Nat.le_of_ble_eq_true rfl, Nat.le_of_ble_eq_true rfl, Nat.le_of_ble_eq_true rfl⟩ rfl (mq_k (c_71 (I := I1) (A := A1) (D := dD S) (by rw [g1 0 (by decide)]; exact hD.2.1)) ?_)
      show mq 65 53 [some (.ref 1), some (.ref 18), some (.ref 60), none] [.int (frS (dD S) 16 0)] (hS n u I1 A1 J B mk sn L xs X) _
      refine x_top (y := nI s) (hfr) ?_
      refine x_is1 (pc := 53) (ml' := [some (.ref 1), some (.ref 18), some (.ref 60), some (.int (nI s))]) rfl rfl ?_
      refine x_il1 (pc := 54) rfl rfl ?_
      refine x_ifN_lt (pc := 55) (t := 103) rfl rfl (by omega) ?_
      refine x_al1 (pc := 58) rfl rfl ?_
      refine g_1_8 (pc := 59) rfl rfl ?_
      refine x_const (pc := 62) (pc' := 64) (.int (nI 8)) rfl rfl rfl rfl ?_
      refine x_al1 (pc := 64) rfl rfl ?_
      refine g_18_0 (pc := 65) rfl rfl ?_
      refine x_const (pc := 68) (pc' := 69) (.int (nI 1)) rfl rfl rfl rfl ?_
      refine x_iaddN (pc := 69) (c := 2) rfl rfl ?_
      refine x_const (pc := 70) (pc' := 71) (.int (nI 0)) rfl rfl rfl rfl ?_
      refine x_al1 (pc := 71) rfl rfl ?_
      refine g_18_7 (pc := 72) (v := nI N) rfl rfl ((f1 45 (by decide)).trans hN) ?_
      refine x_k (pc := 75) rfl rfl rfl ⟨Nat.le_of_ble_eq_true rfl, Nat.le_of_ble_eq_true rfl, Nat.le_of_ble_eq_true rfl⟩ rfl (k_72_51 (I := I1) (A := A1) (m := 8) (o := 2) (g := 0) (b := N) (by decide) (by omega) (fun I2 A2 f2 g2 h2 => ?_))
      show mq 65 78 [some (.ref 1), some (.ref 18), some (.ref 60), some (.int (nI s))] [] (hS n u I2 A2 J B mk sn L xs X) _
      refine x_al1 (pc := 78) rfl rfl ?_
      refine x_il1 (pc := 79) rfl rfl ?_
      refine x_const (pc := 80) (pc' := 83) (.int (nI 128)) rfl rfl rfl rfl ?_
      refine x_imulV (pc := 83) (v := nI (128 * s)) rfl ((pk_mul _ _).trans (congrArg nI (Nat.mul_comm _ _))) ?_
      refine x_al1 (pc := 84) rfl rfl ?_
      refine g_1_8 (pc := 85) rfl rfl ?_
      refine x_const (pc := 88) (pc' := 89) (.int (nI 0)) rfl rfl rfl rfl ?_
      refine x_const (pc := 89) (pc' := 91) (.int (nI 32)) rfl rfl rfl rfl ?_
      refine x_k (pc := 91) rfl rfl rfl ⟨Nat.le_of_ble_eq_true rfl, Nat.le_of_ble_eq_true rfl, Nat.le_of_ble_eq_true rfl⟩ rfl (k_28_51 (I := I2) (A := A2) (S := S) (p := 128 * s) (f := 0) (c := 32) (t := hdr 8 2 0 N) (kD_on hD ho (show Fr [14, 15] I I2 from (Fr_cons (Fr_cons (Fr_refl _ _) f1 (by decide)) f2 (by decide))) (show Fr [3, 4] A A2 from (Fr_cons (Fr_cons (Fr_refl _ _) g1 (by decide)) g2 (by decide))) (by decide) (by decide)) ho hmk (gB0_by (hdr_by _ _ _ _)) (by omega) (by decide) h2 hn hu (fun o3 I3 A3 f3 g3 h3 => ?_) (fun o3 I3 A3 f3 g3 h3 => mK_x rfl (kx (ev ▸ o3) I3 A3 (Up_tr (Up_fr (show Fr [14, 15] I I2 from (Fr_cons (Fr_cons (Fr_refl _ _) f1 (by decide)) f2 (by decide))) (by decide)) f3) (Up_tr (Up_fr (show Fr [3, 4] A A2 from (Fr_cons (Fr_cons (Fr_refl _ _) g1 (by decide)) g2 (by decide))) (by decide)) g3) (ev ▸ h3))))
      show mq 65 94 [some (.ref 1), some (.ref 18), some (.ref 60), some (.int (nI s))] [] (hS n u I3 A3 J B mk sn L xs X) _
      refine x_al1 (pc := 94) rfl rfl ?_
      refine x_al1 (pc := 95) rfl rfl ?_
      refine g_18_5 (pc := 96) (v := nI cn) rfl rfl ((f3 43 (by decide)).trans ((f2 43 (by decide)).trans ((f1 43 (by decide)).trans hc))) ?_
      refine x_il1 (pc := 99) rfl rfl ?_
      refine x_k (pc := 100) rfl rfl rfl ⟨Nat.le_of_ble_eq_true rfl, Nat.le_of_ble_eq_true rfl, Nat.le_of_ble_eq_true rfl⟩ rfl (k_34e_1 (I := I3) (A := A3) (cn := cn) (s := s) hc16 ((f3 43 (by decide)).trans ((f2 43 (by decide)).trans ((f1 43 (by decide)).trans hc))) ?_)
      show mq 65 103 [some (.ref 1), some (.ref 18), some (.ref 60), some (.int (nI s))] [] (hS n u (va_up I3 43 (nI (cn + 1))) (va_up A3 34 (upd (A3 34) cn (nI s))) J B mk sn L xs X) _
      refine x_il1 (pc := 103) rfl rfl ?_
      refine x_ret (pc := 104) rfl rfl ?_
      exact kk (ev ▸ o3) _ _ (Fr_u (Fr_cons (Fr_cons (Fr_cons (Fr_refl _ _) f1 (by decide)) f2 (by decide)) f3 (by decide)) (by decide)) (Fr_u (Fr_cons (Fr_cons (Fr_cons (Fr_refl _ _) g1 (by decide)) g2 (by decide)) g3 (by decide)) (by decide)) (kD_on (ev ▸ h3) (ev ▸ o3) (Fr_up I3 43 _) (Fr_up A3 34 _) (by decide) (by decide)) rfl (show upd (A3 34) cn (nI s) = _ by rw [g3 34 (by decide), g2 34 (by decide), g1 34 (by decide)])
    · omega
set_option maxRecDepth 100000 in
set_option maxHeartbeats 4000000 in
theorem k_34e_2 {cn s : Nat} (hcn : cn < 16) (hc : I 46 = nI cn) {Q : mO × mHp → Prop} (kk : Q (.inl none, hS n u (va_up I 46 (nI (cn + 1))) (va_up A 38 (upd (A 38) cn (nI s))) J B mk sn L xs X)) : mq 34 0 [some (.ref 23), some (.int (nI cn)), some (.int (nI s)), none] [] (hS n u I A J B mk sn L xs X) Q := by
  refine x_al1 (pc := 0) rfl rfl ?_
  refine g_23_5 (pc := 1) (v := nI cn) rfl rfl hc ?_
  refine x_const (pc := 4) (pc' := 6) (.int (nI 16)) rfl rfl rfl rfl ?_
  refine x_cmpN_ge (pc := 6) (t := 21) rfl rfl (by omega) (by omega) (fun c6 => ?_) (fun c6 => ?_)
  · omega
  · refine x_il1 (pc := 9) rfl rfl ?_
    refine x_ifN_lt (pc := 10) (t := 21) rfl rfl (by omega) ?_
    refine x_il1 (pc := 13) rfl rfl ?_
    refine x_al1 (pc := 14) rfl rfl ?_
    refine g_23_5 (pc := 15) (v := nI cn) rfl rfl hc ?_
    refine x_cmpN_le (pc := 18) (t := 22) rfl rfl (by omega) (by omega) (fun c18 => ?_) (fun c18 => ?_)
    · refine x_al1 (pc := 22) rfl rfl ?_
      refine g_23_5 (pc := 23) (v := nI cn) rfl rfl hc ?_
      refine x_is1 (pc := 26) (ml' := [some (.ref 23), some (.int (nI cn)), some (.int (nI s)), some (.int (nI cn))]) rfl rfl ?_
      refine x_il1 (pc := 27) rfl rfl ?_
      refine x_il1 (pc := 28) rfl rfl ?_
      refine x_cmpN_le (pc := 29) (t := 52) rfl rfl (by omega) (by omega) (fun c29 => ?_) (fun c29 => ?_)
      · refine x_al1 (pc := 52) rfl rfl ?_
        refine g_23_1 (pc := 53) rfl rfl ?_
        refine x_il1 (pc := 56) rfl rfl ?_
        refine x_il1 (pc := 57) rfl rfl ?_
        refine as_24 (pc := 58) (q := cn) rfl rfl (by omega) ?_
        refine x_al1 (pc := 59) rfl rfl ?_
        refine x_step (pc := 60) (pc' := 61) (st' := [.ref 23, .ref 23]) rfl rfl rfl rfl ?_
        refine g_23_5 (pc := 61) (v := nI cn) rfl rfl hc ?_
        refine x_const (pc := 64) (pc' := 65) (.int (nI 1)) rfl rfl rfl rfl ?_
        refine x_iaddN (pc := 65) (c := cn + 1) rfl rfl ?_
        refine p_23_5 (pc := 66) rfl rfl ?_
        refine x_ret (pc := 69) rfl rfl ?_
        exact kk
      · omega
    · omega
set_option maxRecDepth 100000 in
set_option maxHeartbeats 4000000 in
theorem k_46_2_0 {p m : Nat} {q o : Int32} (hp : I 20 = nI p) (hp8 : p < 8) (hq : I 21 = q) (hm : I 22 = nI m) {Q : mO × mHp → Prop} (kk : ∀ A', Fr [39, 40, 41] A A' → A' 39 = upd (A 39) p q → A' 40 = upd (A 40) p (nI m) → A' 41 = upd (A 41) p o → Q (.inl none, hS n u I A' J B mk sn L xs X)) : mq 46 0 [some (.ref 23), some (.ref 5), some (.int o), none] [] (hS n u I A J B mk sn L xs X) Q := by
  refine x_al1 (pc := 0) rfl rfl ?_
  refine g_5_1 (pc := 1) (v := nI p) rfl rfl hp ?_
  refine x_is1 (pc := 4) (ml' := [some (.ref 23), some (.ref 5), some (.int o), some (.int (nI p))]) rfl rfl ?_
  refine x_il1 (pc := 5) rfl rfl ?_
  refine x_ifN_lt (pc := 6) (t := 45) rfl rfl (by omega) ?_
  refine x_il1 (pc := 9) rfl rfl ?_
  refine x_const (pc := 10) (pc' := 12) (.int (nI 8)) rfl rfl rfl rfl ?_
  refine x_cmpN_ge (pc := 12) (t := 45) rfl rfl (by omega) (by omega) (fun c12 => ?_) (fun c12 => ?_)
  · omega
  · refine x_al1 (pc := 15) rfl rfl ?_
    refine g_23_2 (pc := 16) rfl rfl ?_
    refine x_il1 (pc := 19) rfl rfl ?_
    refine x_al1 (pc := 20) rfl rfl ?_
    refine g_5_2 (pc := 21) (v := q) rfl rfl hq ?_
    refine as_25 (pc := 24) (q := p) rfl rfl (by omega) ?_
    refine x_al1 (pc := 25) rfl rfl ?_
    refine g_23_3 (pc := 26) rfl rfl ?_
    refine x_il1 (pc := 29) rfl rfl ?_
    refine x_al1 (pc := 30) rfl rfl ?_
    refine g_5_0 (pc := 31) rfl rfl ?_
    refine g_6_5 (pc := 34) (v := nI m) rfl rfl hm ?_
    refine as_26 (pc := 37) (q := p) rfl rfl (by omega) ?_
    refine x_al1 (pc := 38) rfl rfl ?_
    refine g_23_4 (pc := 39) rfl rfl ?_
    refine x_il1 (pc := 42) rfl rfl ?_
    refine x_il1 (pc := 43) rfl rfl ?_
    refine as_27 (pc := 44) (q := p) rfl rfl (by omega) ?_
    refine x_ret (pc := 45) rfl rfl ?_
    exact kk _ (Fr_u (Fr_u (Fr_u (Fr_refl _ _) (by decide)) (by decide)) (by decide)) rfl rfl rfl
set_option maxRecDepth 100000 in
set_option maxHeartbeats 4000000 in
theorem k_46n_2_0 {p : Nat} {o : Int32} (hp : I 20 = nI p) (hp8 : 8 ≤ p ∧ p < 256) {Q : mO × mHp → Prop} (kk : Q (.inl none, hS n u I A J B mk sn L xs X)) : mq 46 0 [some (.ref 23), some (.ref 5), some (.int o), none] [] (hS n u I A J B mk sn L xs X) Q := by
  refine x_al1 (pc := 0) rfl rfl ?_
  refine g_5_1 (pc := 1) (v := nI p) rfl rfl hp ?_
  refine x_is1 (pc := 4) (ml' := [some (.ref 23), some (.ref 5), some (.int o), some (.int (nI p))]) rfl rfl ?_
  refine x_il1 (pc := 5) rfl rfl ?_
  refine x_ifN_lt (pc := 6) (t := 45) rfl rfl (by omega) ?_
  refine x_il1 (pc := 9) rfl rfl ?_
  refine x_const (pc := 10) (pc' := 12) (.int (nI 8)) rfl rfl rfl rfl ?_
  refine x_cmpN_ge (pc := 12) (t := 45) rfl rfl (by omega) (by omega) (fun c12 => ?_) (fun c12 => ?_)
  · refine x_ret (pc := 45) rfl rfl ?_
    exact kk
  · omega
set_option maxRecDepth 100000 in
set_option maxHeartbeats 4000000 in
theorem k_46_2_2 {p m : Nat} {q o : Int32} (hp : I 26 = nI p) (hp8 : p < 8) (hq : I 27 = q) (hm : I 28 = nI m) {Q : mO × mHp → Prop} (kk : ∀ A', Fr [39, 40, 41] A A' → A' 39 = upd (A 39) p q → A' 40 = upd (A 40) p (nI m) → A' 41 = upd (A 41) p o → Q (.inl none, hS n u I A' J B mk sn L xs X)) : mq 46 0 [some (.ref 23), some (.ref 53), some (.int o), none] [] (hS n u I A J B mk sn L xs X) Q := by
  refine x_al1 (pc := 0) rfl rfl ?_
  refine g_53_1 (pc := 1) (v := nI p) rfl rfl hp ?_
  refine x_is1 (pc := 4) (ml' := [some (.ref 23), some (.ref 53), some (.int o), some (.int (nI p))]) rfl rfl ?_
  refine x_il1 (pc := 5) rfl rfl ?_
  refine x_ifN_lt (pc := 6) (t := 45) rfl rfl (by omega) ?_
  refine x_il1 (pc := 9) rfl rfl ?_
  refine x_const (pc := 10) (pc' := 12) (.int (nI 8)) rfl rfl rfl rfl ?_
  refine x_cmpN_ge (pc := 12) (t := 45) rfl rfl (by omega) (by omega) (fun c12 => ?_) (fun c12 => ?_)
  · omega
  · refine x_al1 (pc := 15) rfl rfl ?_
    refine g_23_2 (pc := 16) rfl rfl ?_
    refine x_il1 (pc := 19) rfl rfl ?_
    refine x_al1 (pc := 20) rfl rfl ?_
    refine g_53_2 (pc := 21) (v := q) rfl rfl hq ?_
    refine as_25 (pc := 24) (q := p) rfl rfl (by omega) ?_
    refine x_al1 (pc := 25) rfl rfl ?_
    refine g_23_3 (pc := 26) rfl rfl ?_
    refine x_il1 (pc := 29) rfl rfl ?_
    refine x_al1 (pc := 30) rfl rfl ?_
    refine g_53_0 (pc := 31) rfl rfl ?_
    refine g_54_5 (pc := 34) (v := nI m) rfl rfl hm ?_
    refine as_26 (pc := 37) (q := p) rfl rfl (by omega) ?_
    refine x_al1 (pc := 38) rfl rfl ?_
    refine g_23_4 (pc := 39) rfl rfl ?_
    refine x_il1 (pc := 42) rfl rfl ?_
    refine x_il1 (pc := 43) rfl rfl ?_
    refine as_27 (pc := 44) (q := p) rfl rfl (by omega) ?_
    refine x_ret (pc := 45) rfl rfl ?_
    exact kk _ (Fr_u (Fr_u (Fr_u (Fr_refl _ _) (by decide)) (by decide)) (by decide)) rfl rfl rfl
set_option maxRecDepth 100000 in
set_option maxHeartbeats 4000000 in
theorem k_46n_2_2 {p : Nat} {o : Int32} (hp : I 26 = nI p) (hp8 : 8 ≤ p ∧ p < 256) {Q : mO × mHp → Prop} (kk : Q (.inl none, hS n u I A J B mk sn L xs X)) : mq 46 0 [some (.ref 23), some (.ref 53), some (.int o), none] [] (hS n u I A J B mk sn L xs X) Q := by
  refine x_al1 (pc := 0) rfl rfl ?_
  refine g_53_1 (pc := 1) (v := nI p) rfl rfl hp ?_
  refine x_is1 (pc := 4) (ml' := [some (.ref 23), some (.ref 53), some (.int o), some (.int (nI p))]) rfl rfl ?_
  refine x_il1 (pc := 5) rfl rfl ?_
  refine x_ifN_lt (pc := 6) (t := 45) rfl rfl (by omega) ?_
  refine x_il1 (pc := 9) rfl rfl ?_
  refine x_const (pc := 10) (pc' := 12) (.int (nI 8)) rfl rfl rfl rfl ?_
  refine x_cmpN_ge (pc := 12) (t := 45) rfl rfl (by omega) (by omega) (fun c12 => ?_) (fun c12 => ?_)
  · refine x_ret (pc := 45) rfl rfl ?_
    exact kk
  · omega
set_option maxRecDepth 100000 in
set_option maxHeartbeats 4000000 in
theorem k_46_2_3 {p m : Nat} {q o : Int32} (hp : I 29 = nI p) (hp8 : p < 8) (hq : I 30 = q) (hm : I 31 = nI m) {Q : mO × mHp → Prop} (kk : ∀ A', Fr [39, 40, 41] A A' → A' 39 = upd (A 39) p q → A' 40 = upd (A 40) p (nI m) → A' 41 = upd (A 41) p o → Q (.inl none, hS n u I A' J B mk sn L xs X)) : mq 46 0 [some (.ref 23), some (.ref 60), some (.int o), none] [] (hS n u I A J B mk sn L xs X) Q := by
  refine x_al1 (pc := 0) rfl rfl ?_
  refine g_60_1 (pc := 1) (v := nI p) rfl rfl hp ?_
  refine x_is1 (pc := 4) (ml' := [some (.ref 23), some (.ref 60), some (.int o), some (.int (nI p))]) rfl rfl ?_
  refine x_il1 (pc := 5) rfl rfl ?_
  refine x_ifN_lt (pc := 6) (t := 45) rfl rfl (by omega) ?_
  refine x_il1 (pc := 9) rfl rfl ?_
  refine x_const (pc := 10) (pc' := 12) (.int (nI 8)) rfl rfl rfl rfl ?_
  refine x_cmpN_ge (pc := 12) (t := 45) rfl rfl (by omega) (by omega) (fun c12 => ?_) (fun c12 => ?_)
  · omega
  · refine x_al1 (pc := 15) rfl rfl ?_
    refine g_23_2 (pc := 16) rfl rfl ?_
    refine x_il1 (pc := 19) rfl rfl ?_
    refine x_al1 (pc := 20) rfl rfl ?_
    refine g_60_2 (pc := 21) (v := q) rfl rfl hq ?_
    refine as_25 (pc := 24) (q := p) rfl rfl (by omega) ?_
    refine x_al1 (pc := 25) rfl rfl ?_
    refine g_23_3 (pc := 26) rfl rfl ?_
    refine x_il1 (pc := 29) rfl rfl ?_
    refine x_al1 (pc := 30) rfl rfl ?_
    refine g_60_0 (pc := 31) rfl rfl ?_
    refine g_61_5 (pc := 34) (v := nI m) rfl rfl hm ?_
    refine as_26 (pc := 37) (q := p) rfl rfl (by omega) ?_
    refine x_al1 (pc := 38) rfl rfl ?_
    refine g_23_4 (pc := 39) rfl rfl ?_
    refine x_il1 (pc := 42) rfl rfl ?_
    refine x_il1 (pc := 43) rfl rfl ?_
    refine as_27 (pc := 44) (q := p) rfl rfl (by omega) ?_
    refine x_ret (pc := 45) rfl rfl ?_
    exact kk _ (Fr_u (Fr_u (Fr_u (Fr_refl _ _) (by decide)) (by decide)) (by decide)) rfl rfl rfl
set_option maxRecDepth 100000 in
set_option maxHeartbeats 4000000 in
theorem k_46n_2_3 {p : Nat} {o : Int32} (hp : I 29 = nI p) (hp8 : 8 ≤ p ∧ p < 256) {Q : mO × mHp → Prop} (kk : Q (.inl none, hS n u I A J B mk sn L xs X)) : mq 46 0 [some (.ref 23), some (.ref 60), some (.int o), none] [] (hS n u I A J B mk sn L xs X) Q := by
  refine x_al1 (pc := 0) rfl rfl ?_
  refine g_60_1 (pc := 1) (v := nI p) rfl rfl hp ?_
  refine x_is1 (pc := 4) (ml' := [some (.ref 23), some (.ref 60), some (.int o), some (.int (nI p))]) rfl rfl ?_
  refine x_il1 (pc := 5) rfl rfl ?_
  refine x_ifN_lt (pc := 6) (t := 45) rfl rfl (by omega) ?_
  refine x_il1 (pc := 9) rfl rfl ?_
  refine x_const (pc := 10) (pc' := 12) (.int (nI 8)) rfl rfl rfl rfl ?_
  refine x_cmpN_ge (pc := 12) (t := 45) rfl rfl (by omega) (by omega) (fun c12 => ?_) (fun c12 => ?_)
  · refine x_ret (pc := 45) rfl rfl ?_
    exact kk
  · omega
set_option maxRecDepth 100000 in
set_option maxHeartbeats 4000000 in
theorem k_65a_2_2 {cn N : Nat} {f : Nat → Nat} {l : List R5} {p q : Int32} {S : DS} (hD : kD mk S I A) (ho : dO S = false) (hcn : cn ≤ 16) (hc : I 46 = nI cn) (hf : ∀ k, k < cn → f k < 16) (hsl : ∀ j, j < cn → A 38 j = nI (f j)) (hN : I 48 = nI N) (hNb : N + 4 < 2 ^ 31) (hB : BT 2 I A l p q) (hl1 : 1 ≤ l.length) (hl4 : l.length ≤ 4) (hp : 0 < cn) (hfit : mB (dD S) (f (cn - 1)) + (eBt (nI (bB (dD S) (f (cn - 1)))) p q l).length ≤ 128) {Q : mO × mHp → Prop} (kk : ∀ I' A', Fr [14] I I' → Fr [3] A A' → Q (.inl (some (.int (nI (f (cn - 1))))), hS n u I' A' J B mk sn L xs X)) : mq 65 0 [some (.ref 1), some (.ref 23), some (.ref 53), none] [] (hS n u I A J B mk sn L xs X) Q := by
  refine x_al1 (pc := 0) rfl rfl ?_
  refine g_23_5 (pc := 1) (v := nI cn) rfl rfl hc ?_
  refine x_ifN_le (pc := 4) (t := 46) rfl rfl (by omega) (fun c4 => ?_) (fun c4 => ?_)
  · omega
  · refine x_al1 (pc := 7) rfl rfl ?_
    refine x_al1 (pc := 8) rfl rfl ?_
    refine x_k (pc := 9) rfl rfl rfl ⟨Nat.le_of_ble_eq_true rfl, Nat.le_of_ble_eq_true rfl, Nat.le_of_ble_eq_true rfl⟩ rfl (k_51_2 (I := I) (A := A) hcn hc hsl (by omega) ?_)
    show mq 65 12 [some (.ref 1), some (.ref 23), some (.ref 53), none] [.int (nI (f (cn - 1))), .ref 1] (hS n u I A J B mk sn L xs X) _
    refine x_al1 (pc := 12) rfl rfl ?_
    refine x_k (pc := 13) rfl rfl rfl ⟨Nat.le_of_ble_eq_true rfl, Nat.le_of_ble_eq_true rfl, Nat.le_of_ble_eq_true rfl⟩ rfl (k_66_2 (I := I) (A := A) (D := dD S) (l := l) (p := p) (q := q) hD.2.1 (hf _ (by omega)) hl1 hl4 hB (fun I1 A1 f1 g1 h1 => ?_))
    show mq 65 16 [some (.ref 1), some (.ref 23), some (.ref 53), none] [] (hS n u I1 A1 J B mk sn L xs X) _
    refine x_al1 (pc := 16) rfl rfl ?_
    refine g_1_0 (pc := 17) rfl rfl ?_
    refine x_al1 (pc := 20) rfl rfl ?_
    refine x_k (pc := 21) rfl rfl rfl ⟨Nat.le_of_ble_eq_true rfl, Nat.le_of_ble_eq_true rfl, Nat.le_of_ble_eq_true rfl⟩ rfl (k_51_2 (I := I1) (A := A1) hcn ((f1 46 (by decide)).trans hc) (fun j hj => by rw [g1 38 (by decide)]; exact hsl j hj) (by omega) ?_)
    show mq 65 24 [some (.ref 1), some (.ref 23), some (.ref 53), none] [.int (nI (f (cn - 1))), .ref 2] (hS n u I1 A1 J B mk sn L xs X) _
    refine x_k (pc := 24) rfl rfl rfl ⟨Nat.le_of_ble_eq_true rfl, Nat.le_of_ble_eq_true rfl, Nat.le_of_ble_eq_true rfl⟩ rfl (mq_k (c_37 (I := I1) (A := A1) (D := dD S) (by rw [g1 0 (by decide)]; exact hD.2.1) (hf _ (by omega))) ?_)
    show mq 65 27 [some (.ref 1), some (.ref 23), some (.ref 53), none] [.int (nI (mB (dD S) (f (cn - 1))))] (hS n u I1 A1 J B mk sn L xs X) _
    refine x_al1 (pc := 27) rfl rfl ?_
    refine g_1_7 (pc := 28) rfl rfl ?_
    refine g_49_1 (pc := 31) (v := nI ((eBt (nI (bB (dD S) (f (cn - 1)))) p q l).length)) rfl rfl h1.1 ?_
    refine x_iaddN (pc := 34) (c := (mB (dD S) (f (cn - 1))) + ((eBt (nI (bB (dD S) (f (cn - 1)))) p q l).length)) rfl rfl ?_
    refine x_const (pc := 35) (pc' := 38) (.int (nI 128)) rfl rfl rfl rfl ?_
    have hel := eBt_len (nI (bB (dD S) (f (cn - 1)))) p q l
    have hmb := mB_lt hD.2.1.2.1 (f (cn - 1))
    refine x_cmpN_gt (pc := 38) (t := 46) rfl rfl (by omega) (by omega) (fun c38 => ?_) (fun c38 => ?_)
    · omega
    · refine x_al1 (pc := 41) rfl rfl ?_
      refine x_k (pc := 42) rfl rfl rfl ⟨Nat.le_of_ble_eq_true rfl, Nat.le_of_ble_eq_true rfl, Nat.le_of_ble_eq_true rfl⟩ rfl (k_51_2 (I := I1) (A := A1) hcn ((f1 46 (by decide)).trans hc) (fun j hj => by rw [g1 38 (by decide)]; exact hsl j hj) (by omega) ?_)
      show mq 65 45 [some (.ref 1), some (.ref 23), some (.ref 53), none] [.int (nI (f (cn - 1)))] (hS n u I1 A1 J B mk sn L xs X) _
      refine x_ret (pc := 45) rfl rfl ?_
      exact kk _ _ (Fr_cons (Fr_refl _ _) f1 (by decide)) (Fr_cons (Fr_refl _ _) g1 (by decide))
set_option maxRecDepth 100000 in
set_option maxHeartbeats 4000000 in
theorem k_65c_2_2 {cn N : Nat} {f : Nat → Nat} {l : List R5} {p q : Int32} {S : DS} (hD : kD mk S I A) (ho : dO S = false) (hcn : cn ≤ 16) (hc : I 46 = nI cn) (hf : ∀ k, k < cn → f k < 16) (hsl : ∀ j, j < cn → A 38 j = nI (f j)) (hN : I 48 = nI N) (hNb : N + 4 < 2 ^ 31) (hB : BT 2 I A l p q) (hl1 : 1 ≤ l.length) (hl4 : l.length ≤ 4) (hnf : cn = 0 ∨ 128 < mB (dD S) (f (cn - 1)) + (eBt (nI (bB (dD S) (f (cn - 1)))) p q l).length) (hfr : frS (dD S) 16 0 = -1) {Q : mO × mHp → Prop} (kk : ∀ I' A', Fr [14] I I' → Fr [3] A A' → Q (.inl (some (.int (-1))), hS n u I' A' J B mk sn L xs X)) : mq 65 0 [some (.ref 1), some (.ref 23), some (.ref 53), none] [] (hS n u I A J B mk sn L xs X) Q := by
  refine x_al1 (pc := 0) rfl rfl ?_
  refine g_23_5 (pc := 1) (v := nI cn) rfl rfl hc ?_
  refine x_ifN_le (pc := 4) (t := 46) rfl rfl (by omega) (fun c4 => ?_) (fun c4 => ?_)
  · refine x_al1 (pc := 46) rfl rfl ?_
    refine g_1_0 (pc := 47) rfl rfl ?_
    refine x_k (pc := 50) rfl rfl rfl ⟨Nat.le_of_ble_eq_true rfl, Nat.le_of_ble_eq_true rfl, Nat.le_of_ble_eq_true rfl⟩ rfl (mq_k (c_71 (I := I) (A := A) (D := dD S) hD.2.1) ?_)
    show mq 65 53 [some (.ref 1), some (.ref 23), some (.ref 53), none] [.int (frS (dD S) 16 0)] (hS n u I A J B mk sn L xs X) _
    refine x_top (y := (-1)) (hfr) ?_
    refine x_is1 (pc := 53) (ml' := [some (.ref 1), some (.ref 23), some (.ref 53), some (.int (-1))]) rfl rfl ?_
    refine x_il1 (pc := 54) rfl rfl ?_
    refine x_if_lt (pc := 55) (t := 103) rfl rfl rfl (fun _ => ?_) (fun c => absurd (by decide) c)
    refine x_il1 (pc := 103) rfl rfl ?_
    refine x_ret (pc := 104) rfl rfl ?_
    exact kk _ _ (Fr_refl _ _) (Fr_refl _ _)
  · refine x_al1 (pc := 7) rfl rfl ?_
    refine x_al1 (pc := 8) rfl rfl ?_
    refine x_k (pc := 9) rfl rfl rfl ⟨Nat.le_of_ble_eq_true rfl, Nat.le_of_ble_eq_true rfl, Nat.le_of_ble_eq_true rfl⟩ rfl (k_51_2 (I := I) (A := A) hcn hc hsl (by omega) ?_)
    show mq 65 12 [some (.ref 1), some (.ref 23), some (.ref 53), none] [.int (nI (f (cn - 1))), .ref 1] (hS n u I A J B mk sn L xs X) _
    refine x_al1 (pc := 12) rfl rfl ?_
    refine x_k (pc := 13) rfl rfl rfl ⟨Nat.le_of_ble_eq_true rfl, Nat.le_of_ble_eq_true rfl, Nat.le_of_ble_eq_true rfl⟩ rfl (k_66_2 (I := I) (A := A) (D := dD S) (l := l) (p := p) (q := q) hD.2.1 (hf _ (by omega)) hl1 hl4 hB (fun I1 A1 f1 g1 h1 => ?_))
    show mq 65 16 [some (.ref 1), some (.ref 23), some (.ref 53), none] [] (hS n u I1 A1 J B mk sn L xs X) _
    refine x_al1 (pc := 16) rfl rfl ?_
    refine g_1_0 (pc := 17) rfl rfl ?_
    refine x_al1 (pc := 20) rfl rfl ?_
    refine x_k (pc := 21) rfl rfl rfl ⟨Nat.le_of_ble_eq_true rfl, Nat.le_of_ble_eq_true rfl, Nat.le_of_ble_eq_true rfl⟩ rfl (k_51_2 (I := I1) (A := A1) hcn ((f1 46 (by decide)).trans hc) (fun j hj => by rw [g1 38 (by decide)]; exact hsl j hj) (by omega) ?_)
    show mq 65 24 [some (.ref 1), some (.ref 23), some (.ref 53), none] [.int (nI (f (cn - 1))), .ref 2] (hS n u I1 A1 J B mk sn L xs X) _
    refine x_k (pc := 24) rfl rfl rfl ⟨Nat.le_of_ble_eq_true rfl, Nat.le_of_ble_eq_true rfl, Nat.le_of_ble_eq_true rfl⟩ rfl (mq_k (c_37 (I := I1) (A := A1) (D := dD S) (by rw [g1 0 (by decide)]; exact hD.2.1) (hf _ (by omega))) ?_)
    show mq 65 27 [some (.ref 1), some (.ref 23), some (.ref 53), none] [.int (nI (mB (dD S) (f (cn - 1))))] (hS n u I1 A1 J B mk sn L xs X) _
    refine x_al1 (pc := 27) rfl rfl ?_
    refine g_1_7 (pc := 28) rfl rfl ?_
    refine g_49_1 (pc := 31) (v := nI ((eBt (nI (bB (dD S) (f (cn - 1)))) p q l).length)) rfl rfl h1.1 ?_
    refine x_iaddN (pc := 34) (c := (mB (dD S) (f (cn - 1))) + ((eBt (nI (bB (dD S) (f (cn - 1)))) p q l).length)) rfl rfl ?_
    refine x_const (pc := 35) (pc' := 38) (.int (nI 128)) rfl rfl rfl rfl ?_
    have hel := eBt_len (nI (bB (dD S) (f (cn - 1)))) p q l
    have hmb := mB_lt hD.2.1.2.1 (f (cn - 1))
    refine x_cmpN_gt (pc := 38) (t := 46) rfl rfl (by omega) (by omega) (fun c38 => ?_) (fun c38 => ?_)
    · refine x_al1 (pc := 46) rfl rfl ?_
      refine g_1_0 (pc := 47) rfl rfl ?_
      refine x_k (pc := 50) rfl rfl rfl ⟨Nat.le_of_ble_eq_true rfl, Nat.le_of_ble_eq_true rfl, Nat.le_of_ble_eq_true rfl⟩ rfl (mq_k (c_71 (I := I1) (A := A1) (D := dD S) (by rw [g1 0 (by decide)]; exact hD.2.1)) ?_)
      show mq 65 53 [some (.ref 1), some (.ref 23), some (.ref 53), none] [.int (frS (dD S) 16 0)] (hS n u I1 A1 J B mk sn L xs X) _
      refine x_top (y := (-1)) (hfr) ?_
      refine x_is1 (pc := 53) (ml' := [some (.ref 1), some (.ref 23), some (.ref 53), some (.int (-1))]) rfl rfl ?_
      refine x_il1 (pc := 54) rfl rfl ?_
      refine x_if_lt (pc := 55) (t := 103) rfl rfl rfl (fun _ => ?_) (fun c => absurd (by decide) c)
      refine x_il1 (pc := 103) rfl rfl ?_
      refine x_ret (pc := 104) rfl rfl ?_
      exact kk _ _ (Fr_cons (Fr_refl _ _) f1 (by decide)) (Fr_cons (Fr_refl _ _) g1 (by decide))
    · omega
set_option maxRecDepth 100000 in
set_option maxHeartbeats 4000000 in
theorem k_65b_2_2 {cn N : Nat} {f : Nat → Nat} {l : List R5} {p q : Int32} {S : DS} (hD : kD mk S I A) (ho : dO S = false) (hcn : cn ≤ 16) (hc : I 46 = nI cn) (hf : ∀ k, k < cn → f k < 16) (hsl : ∀ j, j < cn → A 38 j = nI (f j)) (hN : I 48 = nI N) (hNb : N + 4 < 2 ^ 31) (hB : BT 2 I A l p q) (hl1 : 1 ≤ l.length) (hl4 : l.length ≤ 4) (hnf : cn = 0 ∨ 128 < mB (dD S) (f (cn - 1)) + (eBt (nI (bB (dD S) (f (cn - 1)))) p q l).length) {s : Nat} (hs : s < 16) (hfr : frS (dD S) 16 0 = nI s) (hc16 : cn < 16) (hmk : mks mk sn) (hn : 77 ≤ n ∧ n < 10000) (hu : u + 6 < 1000000) {Q : mO × mHp → Prop} (kk : dO (wr1 S (hdW s 2 N)) = false → ∀ I' A', Fr [2, 3, 14, 15, 46] I I' → Fr [0, 3, 4, 38] A A' → kD mk (wr1 S (hdW s 2 N)) I' A' → I' 46 = nI (cn + 1) → A' 38 = upd (A 38) cn (nI s) → Q (.inl (some (.int (nI s))), hS n u I' A' J B mk sn L xs X)) (kx : dO (wr1 S (hdW s 2 N)) = true → ∀ I' A', Up 60 I I' → Up 50 A A' → kD mk (wr1 S (hdW s 2 N)) I' A' → Q (.inr n, hS (n + 1) (u + 6) I' A' J B mk sn L xs (va_up X n (.inr (9, []))))) : mq 65 0 [some (.ref 1), some (.ref 23), some (.ref 53), none] [] (hS n u I A J B mk sn L xs X) Q := by
  have ev : wr1 S (wi (128 * s) 32 (fun i => gB0 (hdr 8 3 0 N) (0 + i))) = wr1 S (hdW s 2 N) := wr1_ext (fun i _ => by rw [Nat.zero_add])
  refine x_al1 (pc := 0) rfl rfl ?_
  refine g_23_5 (pc := 1) (v := nI cn) rfl rfl hc ?_
  refine x_ifN_le (pc := 4) (t := 46) rfl rfl (by omega) (fun c4 => ?_) (fun c4 => ?_)
  · refine x_al1 (pc := 46) rfl rfl ?_
    refine g_1_0 (pc := 47) rfl rfl ?_
    refine x_k (pc := 50) rfl rfl rfl ⟨Nat.le_of_ble_eq_true rfl, Nat.le_of_ble_eq_true rfl, Nat.le_of_ble_eq_true rfl⟩ rfl (mq_k (c_71 (I := I) (A := A) (D := dD S) hD.2.1) ?_)
    show mq 65 53 [some (.ref 1), some (.ref 23), some (.ref 53), none] [.int (frS (dD S) 16 0)] (hS n u I A J B mk sn L xs X) _
    refine x_top (y := nI s) (hfr) ?_
    refine x_is1 (pc := 53) (ml' := [some (.ref 1), some (.ref 23), some (.ref 53), some (.int (nI s))]) rfl rfl ?_
    refine x_il1 (pc := 54) rfl rfl ?_
    refine x_ifN_lt (pc := 55) (t := 103) rfl rfl (by omega) ?_
    refine x_al1 (pc := 58) rfl rfl ?_
    refine g_1_8 (pc := 59) rfl rfl ?_
    refine x_const (pc := 62) (pc' := 64) (.int (nI 8)) rfl rfl rfl rfl ?_
    refine x_al1 (pc := 64) rfl rfl ?_
    refine g_23_0 (pc := 65) rfl rfl ?_
    refine x_const (pc := 68) (pc' := 69) (.int (nI 1)) rfl rfl rfl rfl ?_
    refine x_iaddN (pc := 69) (c := 3) rfl rfl ?_
    refine x_const (pc := 70) (pc' := 71) (.int (nI 0)) rfl rfl rfl rfl ?_
    refine x_al1 (pc := 71) rfl rfl ?_
    refine g_23_7 (pc := 72) (v := nI N) rfl rfl hN ?_
    refine x_k (pc := 75) rfl rfl rfl ⟨Nat.le_of_ble_eq_true rfl, Nat.le_of_ble_eq_true rfl, Nat.le_of_ble_eq_true rfl⟩ rfl (k_72_51 (I := I) (A := A) (m := 8) (o := 3) (g := 0) (b := N) (by decide) (by omega) (fun I2 A2 f2 g2 h2 => ?_))
    show mq 65 78 [some (.ref 1), some (.ref 23), some (.ref 53), some (.int (nI s))] [] (hS n u I2 A2 J B mk sn L xs X) _
    refine x_al1 (pc := 78) rfl rfl ?_
    refine x_il1 (pc := 79) rfl rfl ?_
    refine x_const (pc := 80) (pc' := 83) (.int (nI 128)) rfl rfl rfl rfl ?_
    refine x_imulV (pc := 83) (v := nI (128 * s)) rfl ((pk_mul _ _).trans (congrArg nI (Nat.mul_comm _ _))) ?_
    refine x_al1 (pc := 84) rfl rfl ?_
    refine g_1_8 (pc := 85) rfl rfl ?_
    refine x_const (pc := 88) (pc' := 89) (.int (nI 0)) rfl rfl rfl rfl ?_
    refine x_const (pc := 89) (pc' := 91) (.int (nI 32)) rfl rfl rfl rfl ?_
    refine x_k (pc := 91) rfl rfl rfl ⟨Nat.le_of_ble_eq_true rfl, Nat.le_of_ble_eq_true rfl, Nat.le_of_ble_eq_true rfl⟩ rfl (k_28_51 (I := I2) (A := A2) (S := S) (p := 128 * s) (f := 0) (c := 32) (t := hdr 8 3 0 N) (kD_on hD ho (show Fr [14, 15] I I2 from (Fr_cons (Fr_refl _ _) f2 (by decide))) (show Fr [3, 4] A A2 from (Fr_cons (Fr_refl _ _) g2 (by decide))) (by decide) (by decide)) ho hmk (gB0_by (hdr_by _ _ _ _)) (by omega) (by decide) h2 hn hu (fun o3 I3 A3 f3 g3 h3 => ?_) (fun o3 I3 A3 f3 g3 h3 => mK_x rfl (kx (ev ▸ o3) I3 A3 (Up_tr (Up_fr (show Fr [14, 15] I I2 from (Fr_cons (Fr_refl _ _) f2 (by decide))) (by decide)) f3) (Up_tr (Up_fr (show Fr [3, 4] A A2 from (Fr_cons (Fr_refl _ _) g2 (by decide))) (by decide)) g3) (ev ▸ h3))))
    show mq 65 94 [some (.ref 1), some (.ref 23), some (.ref 53), some (.int (nI s))] [] (hS n u I3 A3 J B mk sn L xs X) _
    refine x_al1 (pc := 94) rfl rfl ?_
    refine x_al1 (pc := 95) rfl rfl ?_
    refine g_23_5 (pc := 96) (v := nI cn) rfl rfl ((f3 46 (by decide)).trans ((f2 46 (by decide)).trans hc)) ?_
    refine x_il1 (pc := 99) rfl rfl ?_
    refine x_k (pc := 100) rfl rfl rfl ⟨Nat.le_of_ble_eq_true rfl, Nat.le_of_ble_eq_true rfl, Nat.le_of_ble_eq_true rfl⟩ rfl (k_34e_2 (I := I3) (A := A3) (cn := cn) (s := s) hc16 ((f3 46 (by decide)).trans ((f2 46 (by decide)).trans hc)) ?_)
    show mq 65 103 [some (.ref 1), some (.ref 23), some (.ref 53), some (.int (nI s))] [] (hS n u (va_up I3 46 (nI (cn + 1))) (va_up A3 38 (upd (A3 38) cn (nI s))) J B mk sn L xs X) _
    refine x_il1 (pc := 103) rfl rfl ?_
    refine x_ret (pc := 104) rfl rfl ?_
    exact kk (ev ▸ o3) _ _ (Fr_u (Fr_cons (Fr_cons (Fr_refl _ _) f2 (by decide)) f3 (by decide)) (by decide)) (Fr_u (Fr_cons (Fr_cons (Fr_refl _ _) g2 (by decide)) g3 (by decide)) (by decide)) (kD_on (ev ▸ h3) (ev ▸ o3) (Fr_up I3 46 _) (Fr_up A3 38 _) (by decide) (by decide)) rfl (show upd (A3 38) cn (nI s) = _ by rw [g3 38 (by decide), g2 38 (by decide)])
  · refine x_al1 (pc := 7) rfl rfl ?_
    refine x_al1 (pc := 8) rfl rfl ?_
    refine x_k (pc := 9) rfl rfl rfl ⟨Nat.le_of_ble_eq_true rfl, Nat.le_of_ble_eq_true rfl, Nat.le_of_ble_eq_true rfl⟩ rfl (k_51_2 (I := I) (A := A) hcn hc hsl (by omega) ?_)
    show mq 65 12 [some (.ref 1), some (.ref 23), some (.ref 53), none] [.int (nI (f (cn - 1))), .ref 1] (hS n u I A J B mk sn L xs X) _
    refine x_al1 (pc := 12) rfl rfl ?_
    refine x_k (pc := 13) rfl rfl rfl ⟨Nat.le_of_ble_eq_true rfl, Nat.le_of_ble_eq_true rfl, Nat.le_of_ble_eq_true rfl⟩ rfl (k_66_2 (I := I) (A := A) (D := dD S) (l := l) (p := p) (q := q) hD.2.1 (hf _ (by omega)) hl1 hl4 hB (fun I1 A1 f1 g1 h1 => ?_))
    show mq 65 16 [some (.ref 1), some (.ref 23), some (.ref 53), none] [] (hS n u I1 A1 J B mk sn L xs X) _
    refine x_al1 (pc := 16) rfl rfl ?_
    refine g_1_0 (pc := 17) rfl rfl ?_
    refine x_al1 (pc := 20) rfl rfl ?_
    refine x_k (pc := 21) rfl rfl rfl ⟨Nat.le_of_ble_eq_true rfl, Nat.le_of_ble_eq_true rfl, Nat.le_of_ble_eq_true rfl⟩ rfl (k_51_2 (I := I1) (A := A1) hcn ((f1 46 (by decide)).trans hc) (fun j hj => by rw [g1 38 (by decide)]; exact hsl j hj) (by omega) ?_)
    show mq 65 24 [some (.ref 1), some (.ref 23), some (.ref 53), none] [.int (nI (f (cn - 1))), .ref 2] (hS n u I1 A1 J B mk sn L xs X) _
    refine x_k (pc := 24) rfl rfl rfl ⟨Nat.le_of_ble_eq_true rfl, Nat.le_of_ble_eq_true rfl, Nat.le_of_ble_eq_true rfl⟩ rfl (mq_k (c_37 (I := I1) (A := A1) (D := dD S) (by rw [g1 0 (by decide)]; exact hD.2.1) (hf _ (by omega))) ?_)
    show mq 65 27 [some (.ref 1), some (.ref 23), some (.ref 53), none] [.int (nI (mB (dD S) (f (cn - 1))))] (hS n u I1 A1 J B mk sn L xs X) _
    refine x_al1 (pc := 27) rfl rfl ?_
    refine g_1_7 (pc := 28) rfl rfl ?_
    refine g_49_1 (pc := 31) (v := nI ((eBt (nI (bB (dD S) (f (cn - 1)))) p q l).length)) rfl rfl h1.1 ?_
    refine x_iaddN (pc := 34) (c := (mB (dD S) (f (cn - 1))) + ((eBt (nI (bB (dD S) (f (cn - 1)))) p q l).length)) rfl rfl ?_
    refine x_const (pc := 35) (pc' := 38) (.int (nI 128)) rfl rfl rfl rfl ?_
    have hel := eBt_len (nI (bB (dD S) (f (cn - 1)))) p q l
    have hmb := mB_lt hD.2.1.2.1 (f (cn - 1))
    refine x_cmpN_gt (pc := 38) (t := 46) rfl rfl (by omega) (by omega) (fun c38 => ?_) (fun c38 => ?_)
    · refine x_al1 (pc := 46) rfl rfl ?_
      refine g_1_0 (pc := 47) rfl rfl ?_
      refine x_k (pc := 50) rfl rfl rfl ⟨Nat.le_of_ble_eq_true rfl, Nat.le_of_ble_eq_true rfl, Nat.le_of_ble_eq_true rfl⟩ rfl (mq_k (c_71 (I := I1) (A := A1) (D := dD S) (by rw [g1 0 (by decide)]; exact hD.2.1)) ?_)
      show mq 65 53 [some (.ref 1), some (.ref 23), some (.ref 53), none] [.int (frS (dD S) 16 0)] (hS n u I1 A1 J B mk sn L xs X) _
      refine x_top (y := nI s) (hfr) ?_
      refine x_is1 (pc := 53) (ml' := [some (.ref 1), some (.ref 23), some (.ref 53), some (.int (nI s))]) rfl rfl ?_
      refine x_il1 (pc := 54) rfl rfl ?_
      refine x_ifN_lt (pc := 55) (t := 103) rfl rfl (by omega) ?_
      refine x_al1 (pc := 58) rfl rfl ?_
      refine g_1_8 (pc := 59) rfl rfl ?_
      refine x_const (pc := 62) (pc' := 64) (.int (nI 8)) rfl rfl rfl rfl ?_
      refine x_al1 (pc := 64) rfl rfl ?_
      refine g_23_0 (pc := 65) rfl rfl ?_
      refine x_const (pc := 68) (pc' := 69) (.int (nI 1)) rfl rfl rfl rfl ?_
      refine x_iaddN (pc := 69) (c := 3) rfl rfl ?_
      refine x_const (pc := 70) (pc' := 71) (.int (nI 0)) rfl rfl rfl rfl ?_
      refine x_al1 (pc := 71) rfl rfl ?_
      refine g_23_7 (pc := 72) (v := nI N) rfl rfl ((f1 48 (by decide)).trans hN) ?_
      refine x_k (pc := 75) rfl rfl rfl ⟨Nat.le_of_ble_eq_true rfl, Nat.le_of_ble_eq_true rfl, Nat.le_of_ble_eq_true rfl⟩ rfl (k_72_51 (I := I1) (A := A1) (m := 8) (o := 3) (g := 0) (b := N) (by decide) (by omega) (fun I2 A2 f2 g2 h2 => ?_))
      show mq 65 78 [some (.ref 1), some (.ref 23), some (.ref 53), some (.int (nI s))] [] (hS n u I2 A2 J B mk sn L xs X) _
      refine x_al1 (pc := 78) rfl rfl ?_
      refine x_il1 (pc := 79) rfl rfl ?_
      refine x_const (pc := 80) (pc' := 83) (.int (nI 128)) rfl rfl rfl rfl ?_
      refine x_imulV (pc := 83) (v := nI (128 * s)) rfl ((pk_mul _ _).trans (congrArg nI (Nat.mul_comm _ _))) ?_
      refine x_al1 (pc := 84) rfl rfl ?_
      refine g_1_8 (pc := 85) rfl rfl ?_
      refine x_const (pc := 88) (pc' := 89) (.int (nI 0)) rfl rfl rfl rfl ?_
      refine x_const (pc := 89) (pc' := 91) (.int (nI 32)) rfl rfl rfl rfl ?_
      refine x_k (pc := 91) rfl rfl rfl ⟨Nat.le_of_ble_eq_true rfl, Nat.le_of_ble_eq_true rfl, Nat.le_of_ble_eq_true rfl⟩ rfl (k_28_51 (I := I2) (A := A2) (S := S) (p := 128 * s) (f := 0) (c := 32) (t := hdr 8 3 0 N) (kD_on hD ho (show Fr [14, 15] I I2 from (Fr_cons (Fr_cons (Fr_refl _ _) f1 (by decide)) f2 (by decide))) (show Fr [3, 4] A A2 from (Fr_cons (Fr_cons (Fr_refl _ _) g1 (by decide)) g2 (by decide))) (by decide) (by decide)) ho hmk (gB0_by (hdr_by _ _ _ _)) (by omega) (by decide) h2 hn hu (fun o3 I3 A3 f3 g3 h3 => ?_) (fun o3 I3 A3 f3 g3 h3 => mK_x rfl (kx (ev ▸ o3) I3 A3 (Up_tr (Up_fr (show Fr [14, 15] I I2 from (Fr_cons (Fr_cons (Fr_refl _ _) f1 (by decide)) f2 (by decide))) (by decide)) f3) (Up_tr (Up_fr (show Fr [3, 4] A A2 from (Fr_cons (Fr_cons (Fr_refl _ _) g1 (by decide)) g2 (by decide))) (by decide)) g3) (ev ▸ h3))))
      show mq 65 94 [some (.ref 1), some (.ref 23), some (.ref 53), some (.int (nI s))] [] (hS n u I3 A3 J B mk sn L xs X) _
      refine x_al1 (pc := 94) rfl rfl ?_
      refine x_al1 (pc := 95) rfl rfl ?_
      refine g_23_5 (pc := 96) (v := nI cn) rfl rfl ((f3 46 (by decide)).trans ((f2 46 (by decide)).trans ((f1 46 (by decide)).trans hc))) ?_
      refine x_il1 (pc := 99) rfl rfl ?_
      refine x_k (pc := 100) rfl rfl rfl ⟨Nat.le_of_ble_eq_true rfl, Nat.le_of_ble_eq_true rfl, Nat.le_of_ble_eq_true rfl⟩ rfl (k_34e_2 (I := I3) (A := A3) (cn := cn) (s := s) hc16 ((f3 46 (by decide)).trans ((f2 46 (by decide)).trans ((f1 46 (by decide)).trans hc))) ?_)
      show mq 65 103 [some (.ref 1), some (.ref 23), some (.ref 53), some (.int (nI s))] [] (hS n u (va_up I3 46 (nI (cn + 1))) (va_up A3 38 (upd (A3 38) cn (nI s))) J B mk sn L xs X) _
      refine x_il1 (pc := 103) rfl rfl ?_
      refine x_ret (pc := 104) rfl rfl ?_
      exact kk (ev ▸ o3) _ _ (Fr_u (Fr_cons (Fr_cons (Fr_cons (Fr_refl _ _) f1 (by decide)) f2 (by decide)) f3 (by decide)) (by decide)) (Fr_u (Fr_cons (Fr_cons (Fr_cons (Fr_refl _ _) g1 (by decide)) g2 (by decide)) g3 (by decide)) (by decide)) (kD_on (ev ▸ h3) (ev ▸ o3) (Fr_up I3 46 _) (Fr_up A3 38 _) (by decide) (by decide)) rfl (show upd (A3 38) cn (nI s) = _ by rw [g3 38 (by decide), g2 38 (by decide), g1 38 (by decide)])
    · omega
set_option maxRecDepth 100000 in
set_option maxHeartbeats 4000000 in
theorem k_65a_2_3 {cn N : Nat} {f : Nat → Nat} {l : List R5} {p q : Int32} {S : DS} (hD : kD mk S I A) (ho : dO S = false) (hcn : cn ≤ 16) (hc : I 46 = nI cn) (hf : ∀ k, k < cn → f k < 16) (hsl : ∀ j, j < cn → A 38 j = nI (f j)) (hN : I 48 = nI N) (hNb : N + 4 < 2 ^ 31) (hB : BT 3 I A l p q) (hl1 : 1 ≤ l.length) (hl4 : l.length ≤ 4) (hp : 0 < cn) (hfit : mB (dD S) (f (cn - 1)) + (eBt (nI (bB (dD S) (f (cn - 1)))) p q l).length ≤ 128) {Q : mO × mHp → Prop} (kk : ∀ I' A', Fr [14] I I' → Fr [3] A A' → Q (.inl (some (.int (nI (f (cn - 1))))), hS n u I' A' J B mk sn L xs X)) : mq 65 0 [some (.ref 1), some (.ref 23), some (.ref 60), none] [] (hS n u I A J B mk sn L xs X) Q := by
  refine x_al1 (pc := 0) rfl rfl ?_
  refine g_23_5 (pc := 1) (v := nI cn) rfl rfl hc ?_
  refine x_ifN_le (pc := 4) (t := 46) rfl rfl (by omega) (fun c4 => ?_) (fun c4 => ?_)
  · omega
  · refine x_al1 (pc := 7) rfl rfl ?_
    refine x_al1 (pc := 8) rfl rfl ?_
    refine x_k (pc := 9) rfl rfl rfl ⟨Nat.le_of_ble_eq_true rfl, Nat.le_of_ble_eq_true rfl, Nat.le_of_ble_eq_true rfl⟩ rfl (k_51_2 (I := I) (A := A) hcn hc hsl (by omega) ?_)
    show mq 65 12 [some (.ref 1), some (.ref 23), some (.ref 60), none] [.int (nI (f (cn - 1))), .ref 1] (hS n u I A J B mk sn L xs X) _
    refine x_al1 (pc := 12) rfl rfl ?_
    refine x_k (pc := 13) rfl rfl rfl ⟨Nat.le_of_ble_eq_true rfl, Nat.le_of_ble_eq_true rfl, Nat.le_of_ble_eq_true rfl⟩ rfl (k_66_3 (I := I) (A := A) (D := dD S) (l := l) (p := p) (q := q) hD.2.1 (hf _ (by omega)) hl1 hl4 hB (fun I1 A1 f1 g1 h1 => ?_))
    show mq 65 16 [some (.ref 1), some (.ref 23), some (.ref 60), none] [] (hS n u I1 A1 J B mk sn L xs X) _
    refine x_al1 (pc := 16) rfl rfl ?_
    refine g_1_0 (pc := 17) rfl rfl ?_
    refine x_al1 (pc := 20) rfl rfl ?_
    refine x_k (pc := 21) rfl rfl rfl ⟨Nat.le_of_ble_eq_true rfl, Nat.le_of_ble_eq_true rfl, Nat.le_of_ble_eq_true rfl⟩ rfl (k_51_2 (I := I1) (A := A1) hcn ((f1 46 (by decide)).trans hc) (fun j hj => by rw [g1 38 (by decide)]; exact hsl j hj) (by omega) ?_)
    show mq 65 24 [some (.ref 1), some (.ref 23), some (.ref 60), none] [.int (nI (f (cn - 1))), .ref 2] (hS n u I1 A1 J B mk sn L xs X) _
    refine x_k (pc := 24) rfl rfl rfl ⟨Nat.le_of_ble_eq_true rfl, Nat.le_of_ble_eq_true rfl, Nat.le_of_ble_eq_true rfl⟩ rfl (mq_k (c_37 (I := I1) (A := A1) (D := dD S) (by rw [g1 0 (by decide)]; exact hD.2.1) (hf _ (by omega))) ?_)
    show mq 65 27 [some (.ref 1), some (.ref 23), some (.ref 60), none] [.int (nI (mB (dD S) (f (cn - 1))))] (hS n u I1 A1 J B mk sn L xs X) _
    refine x_al1 (pc := 27) rfl rfl ?_
    refine g_1_7 (pc := 28) rfl rfl ?_
    refine g_49_1 (pc := 31) (v := nI ((eBt (nI (bB (dD S) (f (cn - 1)))) p q l).length)) rfl rfl h1.1 ?_
    refine x_iaddN (pc := 34) (c := (mB (dD S) (f (cn - 1))) + ((eBt (nI (bB (dD S) (f (cn - 1)))) p q l).length)) rfl rfl ?_
    refine x_const (pc := 35) (pc' := 38) (.int (nI 128)) rfl rfl rfl rfl ?_
    have hel := eBt_len (nI (bB (dD S) (f (cn - 1)))) p q l
    have hmb := mB_lt hD.2.1.2.1 (f (cn - 1))
    refine x_cmpN_gt (pc := 38) (t := 46) rfl rfl (by omega) (by omega) (fun c38 => ?_) (fun c38 => ?_)
    · omega
    · refine x_al1 (pc := 41) rfl rfl ?_
      refine x_k (pc := 42) rfl rfl rfl ⟨Nat.le_of_ble_eq_true rfl, Nat.le_of_ble_eq_true rfl, Nat.le_of_ble_eq_true rfl⟩ rfl (k_51_2 (I := I1) (A := A1) hcn ((f1 46 (by decide)).trans hc) (fun j hj => by rw [g1 38 (by decide)]; exact hsl j hj) (by omega) ?_)
      show mq 65 45 [some (.ref 1), some (.ref 23), some (.ref 60), none] [.int (nI (f (cn - 1)))] (hS n u I1 A1 J B mk sn L xs X) _
      refine x_ret (pc := 45) rfl rfl ?_
      exact kk _ _ (Fr_cons (Fr_refl _ _) f1 (by decide)) (Fr_cons (Fr_refl _ _) g1 (by decide))
set_option maxRecDepth 100000 in
set_option maxHeartbeats 4000000 in
theorem k_65c_2_3 {cn N : Nat} {f : Nat → Nat} {l : List R5} {p q : Int32} {S : DS} (hD : kD mk S I A) (ho : dO S = false) (hcn : cn ≤ 16) (hc : I 46 = nI cn) (hf : ∀ k, k < cn → f k < 16) (hsl : ∀ j, j < cn → A 38 j = nI (f j)) (hN : I 48 = nI N) (hNb : N + 4 < 2 ^ 31) (hB : BT 3 I A l p q) (hl1 : 1 ≤ l.length) (hl4 : l.length ≤ 4) (hnf : cn = 0 ∨ 128 < mB (dD S) (f (cn - 1)) + (eBt (nI (bB (dD S) (f (cn - 1)))) p q l).length) (hfr : frS (dD S) 16 0 = -1) {Q : mO × mHp → Prop} (kk : ∀ I' A', Fr [14] I I' → Fr [3] A A' → Q (.inl (some (.int (-1))), hS n u I' A' J B mk sn L xs X)) : mq 65 0 [some (.ref 1), some (.ref 23), some (.ref 60), none] [] (hS n u I A J B mk sn L xs X) Q := by
  refine x_al1 (pc := 0) rfl rfl ?_
  refine g_23_5 (pc := 1) (v := nI cn) rfl rfl hc ?_
  refine x_ifN_le (pc := 4) (t := 46) rfl rfl (by omega) (fun c4 => ?_) (fun c4 => ?_)
  · refine x_al1 (pc := 46) rfl rfl ?_
    refine g_1_0 (pc := 47) rfl rfl ?_
    refine x_k (pc := 50) rfl rfl rfl ⟨Nat.le_of_ble_eq_true rfl, Nat.le_of_ble_eq_true rfl, Nat.le_of_ble_eq_true rfl⟩ rfl (mq_k (c_71 (I := I) (A := A) (D := dD S) hD.2.1) ?_)
    show mq 65 53 [some (.ref 1), some (.ref 23), some (.ref 60), none] [.int (frS (dD S) 16 0)] (hS n u I A J B mk sn L xs X) _
    refine x_top (y := (-1)) (hfr) ?_
    refine x_is1 (pc := 53) (ml' := [some (.ref 1), some (.ref 23), some (.ref 60), some (.int (-1))]) rfl rfl ?_
    refine x_il1 (pc := 54) rfl rfl ?_
    refine x_if_lt (pc := 55) (t := 103) rfl rfl rfl (fun _ => ?_) (fun c => absurd (by decide) c)
    refine x_il1 (pc := 103) rfl rfl ?_
    refine x_ret (pc := 104) rfl rfl ?_
    exact kk _ _ (Fr_refl _ _) (Fr_refl _ _)
  · refine x_al1 (pc := 7) rfl rfl ?_
    refine x_al1 (pc := 8) rfl rfl ?_
    refine x_k (pc := 9) rfl rfl rfl ⟨Nat.le_of_ble_eq_true rfl, Nat.le_of_ble_eq_true rfl, Nat.le_of_ble_eq_true rfl⟩ rfl (k_51_2 (I := I) (A := A) hcn hc hsl (by omega) ?_)
    show mq 65 12 [some (.ref 1), some (.ref 23), some (.ref 60), none] [.int (nI (f (cn - 1))), .ref 1] (hS n u I A J B mk sn L xs X) _
    refine x_al1 (pc := 12) rfl rfl ?_
    refine x_k (pc := 13) rfl rfl rfl ⟨Nat.le_of_ble_eq_true rfl, Nat.le_of_ble_eq_true rfl, Nat.le_of_ble_eq_true rfl⟩ rfl (k_66_3 (I := I) (A := A) (D := dD S) (l := l) (p := p) (q := q) hD.2.1 (hf _ (by omega)) hl1 hl4 hB (fun I1 A1 f1 g1 h1 => ?_))
    show mq 65 16 [some (.ref 1), some (.ref 23), some (.ref 60), none] [] (hS n u I1 A1 J B mk sn L xs X) _
    refine x_al1 (pc := 16) rfl rfl ?_
    refine g_1_0 (pc := 17) rfl rfl ?_
    refine x_al1 (pc := 20) rfl rfl ?_
    refine x_k (pc := 21) rfl rfl rfl ⟨Nat.le_of_ble_eq_true rfl, Nat.le_of_ble_eq_true rfl, Nat.le_of_ble_eq_true rfl⟩ rfl (k_51_2 (I := I1) (A := A1) hcn ((f1 46 (by decide)).trans hc) (fun j hj => by rw [g1 38 (by decide)]; exact hsl j hj) (by omega) ?_)
    show mq 65 24 [some (.ref 1), some (.ref 23), some (.ref 60), none] [.int (nI (f (cn - 1))), .ref 2] (hS n u I1 A1 J B mk sn L xs X) _
    refine x_k (pc := 24) rfl rfl rfl ⟨Nat.le_of_ble_eq_true rfl, Nat.le_of_ble_eq_true rfl, Nat.le_of_ble_eq_true rfl⟩ rfl (mq_k (c_37 (I := I1) (A := A1) (D := dD S) (by rw [g1 0 (by decide)]; exact hD.2.1) (hf _ (by omega))) ?_)
    show mq 65 27 [some (.ref 1), some (.ref 23), some (.ref 60), none] [.int (nI (mB (dD S) (f (cn - 1))))] (hS n u I1 A1 J B mk sn L xs X) _
    refine x_al1 (pc := 27) rfl rfl ?_
    refine g_1_7 (pc := 28) rfl rfl ?_
    refine g_49_1 (pc := 31) (v := nI ((eBt (nI (bB (dD S) (f (cn - 1)))) p q l).length)) rfl rfl h1.1 ?_
    refine x_iaddN (pc := 34) (c := (mB (dD S) (f (cn - 1))) + ((eBt (nI (bB (dD S) (f (cn - 1)))) p q l).length)) rfl rfl ?_
    refine x_const (pc := 35) (pc' := 38) (.int (nI 128)) rfl rfl rfl rfl ?_
    have hel := eBt_len (nI (bB (dD S) (f (cn - 1)))) p q l
    have hmb := mB_lt hD.2.1.2.1 (f (cn - 1))
    refine x_cmpN_gt (pc := 38) (t := 46) rfl rfl (by omega) (by omega) (fun c38 => ?_) (fun c38 => ?_)
    · refine x_al1 (pc := 46) rfl rfl ?_
      refine g_1_0 (pc := 47) rfl rfl ?_
      refine x_k (pc := 50) rfl rfl rfl ⟨Nat.le_of_ble_eq_true rfl, Nat.le_of_ble_eq_true rfl, Nat.le_of_ble_eq_true rfl⟩ rfl (mq_k (c_71 (I := I1) (A := A1) (D := dD S) (by rw [g1 0 (by decide)]; exact hD.2.1)) ?_)
      show mq 65 53 [some (.ref 1), some (.ref 23), some (.ref 60), none] [.int (frS (dD S) 16 0)] (hS n u I1 A1 J B mk sn L xs X) _
      refine x_top (y := (-1)) (hfr) ?_
      refine x_is1 (pc := 53) (ml' := [some (.ref 1), some (.ref 23), some (.ref 60), some (.int (-1))]) rfl rfl ?_
      refine x_il1 (pc := 54) rfl rfl ?_
      refine x_if_lt (pc := 55) (t := 103) rfl rfl rfl (fun _ => ?_) (fun c => absurd (by decide) c)
      refine x_il1 (pc := 103) rfl rfl ?_
      refine x_ret (pc := 104) rfl rfl ?_
      exact kk _ _ (Fr_cons (Fr_refl _ _) f1 (by decide)) (Fr_cons (Fr_refl _ _) g1 (by decide))
    · omega
set_option maxRecDepth 100000 in
set_option maxHeartbeats 4000000 in
theorem k_65b_2_3 {cn N : Nat} {f : Nat → Nat} {l : List R5} {p q : Int32} {S : DS} (hD : kD mk S I A) (ho : dO S = false) (hcn : cn ≤ 16) (hc : I 46 = nI cn) (hf : ∀ k, k < cn → f k < 16) (hsl : ∀ j, j < cn → A 38 j = nI (f j)) (hN : I 48 = nI N) (hNb : N + 4 < 2 ^ 31) (hB : BT 3 I A l p q) (hl1 : 1 ≤ l.length) (hl4 : l.length ≤ 4) (hnf : cn = 0 ∨ 128 < mB (dD S) (f (cn - 1)) + (eBt (nI (bB (dD S) (f (cn - 1)))) p q l).length) {s : Nat} (hs : s < 16) (hfr : frS (dD S) 16 0 = nI s) (hc16 : cn < 16) (hmk : mks mk sn) (hn : 77 ≤ n ∧ n < 10000) (hu : u + 6 < 1000000) {Q : mO × mHp → Prop} (kk : dO (wr1 S (hdW s 2 N)) = false → ∀ I' A', Fr [2, 3, 14, 15, 46] I I' → Fr [0, 3, 4, 38] A A' → kD mk (wr1 S (hdW s 2 N)) I' A' → I' 46 = nI (cn + 1) → A' 38 = upd (A 38) cn (nI s) → Q (.inl (some (.int (nI s))), hS n u I' A' J B mk sn L xs X)) (kx : dO (wr1 S (hdW s 2 N)) = true → ∀ I' A', Up 60 I I' → Up 50 A A' → kD mk (wr1 S (hdW s 2 N)) I' A' → Q (.inr n, hS (n + 1) (u + 6) I' A' J B mk sn L xs (va_up X n (.inr (9, []))))) : mq 65 0 [some (.ref 1), some (.ref 23), some (.ref 60), none] [] (hS n u I A J B mk sn L xs X) Q := by
  have ev : wr1 S (wi (128 * s) 32 (fun i => gB0 (hdr 8 3 0 N) (0 + i))) = wr1 S (hdW s 2 N) := wr1_ext (fun i _ => by rw [Nat.zero_add])
  refine x_al1 (pc := 0) rfl rfl ?_
  refine g_23_5 (pc := 1) (v := nI cn) rfl rfl hc ?_
  refine x_ifN_le (pc := 4) (t := 46) rfl rfl (by omega) (fun c4 => ?_) (fun c4 => ?_)
  · refine x_al1 (pc := 46) rfl rfl ?_
    refine g_1_0 (pc := 47) rfl rfl ?_
    refine x_k (pc := 50) rfl rfl rfl ⟨Nat.le_of_ble_eq_true rfl, Nat.le_of_ble_eq_true rfl, Nat.le_of_ble_eq_true rfl⟩ rfl (mq_k (c_71 (I := I) (A := A) (D := dD S) hD.2.1) ?_)
    show mq 65 53 [some (.ref 1), some (.ref 23), some (.ref 60), none] [.int (frS (dD S) 16 0)] (hS n u I A J B mk sn L xs X) _
    refine x_top (y := nI s) (hfr) ?_
    refine x_is1 (pc := 53) (ml' := [some (.ref 1), some (.ref 23), some (.ref 60), some (.int (nI s))]) rfl rfl ?_
    refine x_il1 (pc := 54) rfl rfl ?_
    refine x_ifN_lt (pc := 55) (t := 103) rfl rfl (by omega) ?_
    refine x_al1 (pc := 58) rfl rfl ?_
    refine g_1_8 (pc := 59) rfl rfl ?_
    refine x_const (pc := 62) (pc' := 64) (.int (nI 8)) rfl rfl rfl rfl ?_
    refine x_al1 (pc := 64) rfl rfl ?_
    refine g_23_0 (pc := 65) rfl rfl ?_
    refine x_const (pc := 68) (pc' := 69) (.int (nI 1)) rfl rfl rfl rfl ?_
    refine x_iaddN (pc := 69) (c := 3) rfl rfl ?_
    refine x_const (pc := 70) (pc' := 71) (.int (nI 0)) rfl rfl rfl rfl ?_
    refine x_al1 (pc := 71) rfl rfl ?_
    refine g_23_7 (pc := 72) (v := nI N) rfl rfl hN ?_
    refine x_k (pc := 75) rfl rfl rfl ⟨Nat.le_of_ble_eq_true rfl, Nat.le_of_ble_eq_true rfl, Nat.le_of_ble_eq_true rfl⟩ rfl (k_72_51 (I := I) (A := A) (m := 8) (o := 3) (g := 0) (b := N) (by decide) (by omega) (fun I2 A2 f2 g2 h2 => ?_))
    show mq 65 78 [some (.ref 1), some (.ref 23), some (.ref 60), some (.int (nI s))] [] (hS n u I2 A2 J B mk sn L xs X) _
    refine x_al1 (pc := 78) rfl rfl ?_
    refine x_il1 (pc := 79) rfl rfl ?_
    refine x_const (pc := 80) (pc' := 83) (.int (nI 128)) rfl rfl rfl rfl ?_
    refine x_imulV (pc := 83) (v := nI (128 * s)) rfl ((pk_mul _ _).trans (congrArg nI (Nat.mul_comm _ _))) ?_
    refine x_al1 (pc := 84) rfl rfl ?_
    refine g_1_8 (pc := 85) rfl rfl ?_
    refine x_const (pc := 88) (pc' := 89) (.int (nI 0)) rfl rfl rfl rfl ?_
    refine x_const (pc := 89) (pc' := 91) (.int (nI 32)) rfl rfl rfl rfl ?_
    refine x_k (pc := 91) rfl rfl rfl ⟨Nat.le_of_ble_eq_true rfl, Nat.le_of_ble_eq_true rfl, Nat.le_of_ble_eq_true rfl⟩ rfl (k_28_51 (I := I2) (A := A2) (S := S) (p := 128 * s) (f := 0) (c := 32) (t := hdr 8 3 0 N) (kD_on hD ho (show Fr [14, 15] I I2 from (Fr_cons (Fr_refl _ _) f2 (by decide))) (show Fr [3, 4] A A2 from (Fr_cons (Fr_refl _ _) g2 (by decide))) (by decide) (by decide)) ho hmk (gB0_by (hdr_by _ _ _ _)) (by omega) (by decide) h2 hn hu (fun o3 I3 A3 f3 g3 h3 => ?_) (fun o3 I3 A3 f3 g3 h3 => mK_x rfl (kx (ev ▸ o3) I3 A3 (Up_tr (Up_fr (show Fr [14, 15] I I2 from (Fr_cons (Fr_refl _ _) f2 (by decide))) (by decide)) f3) (Up_tr (Up_fr (show Fr [3, 4] A A2 from (Fr_cons (Fr_refl _ _) g2 (by decide))) (by decide)) g3) (ev ▸ h3))))
    show mq 65 94 [some (.ref 1), some (.ref 23), some (.ref 60), some (.int (nI s))] [] (hS n u I3 A3 J B mk sn L xs X) _
    refine x_al1 (pc := 94) rfl rfl ?_
    refine x_al1 (pc := 95) rfl rfl ?_
    refine g_23_5 (pc := 96) (v := nI cn) rfl rfl ((f3 46 (by decide)).trans ((f2 46 (by decide)).trans hc)) ?_
    refine x_il1 (pc := 99) rfl rfl ?_
    refine x_k (pc := 100) rfl rfl rfl ⟨Nat.le_of_ble_eq_true rfl, Nat.le_of_ble_eq_true rfl, Nat.le_of_ble_eq_true rfl⟩ rfl (k_34e_2 (I := I3) (A := A3) (cn := cn) (s := s) hc16 ((f3 46 (by decide)).trans ((f2 46 (by decide)).trans hc)) ?_)
    show mq 65 103 [some (.ref 1), some (.ref 23), some (.ref 60), some (.int (nI s))] [] (hS n u (va_up I3 46 (nI (cn + 1))) (va_up A3 38 (upd (A3 38) cn (nI s))) J B mk sn L xs X) _
    refine x_il1 (pc := 103) rfl rfl ?_
    refine x_ret (pc := 104) rfl rfl ?_
    exact kk (ev ▸ o3) _ _ (Fr_u (Fr_cons (Fr_cons (Fr_refl _ _) f2 (by decide)) f3 (by decide)) (by decide)) (Fr_u (Fr_cons (Fr_cons (Fr_refl _ _) g2 (by decide)) g3 (by decide)) (by decide)) (kD_on (ev ▸ h3) (ev ▸ o3) (Fr_up I3 46 _) (Fr_up A3 38 _) (by decide) (by decide)) rfl (show upd (A3 38) cn (nI s) = _ by rw [g3 38 (by decide), g2 38 (by decide)])
  · refine x_al1 (pc := 7) rfl rfl ?_
    refine x_al1 (pc := 8) rfl rfl ?_
    refine x_k (pc := 9) rfl rfl rfl ⟨Nat.le_of_ble_eq_true rfl, Nat.le_of_ble_eq_true rfl, Nat.le_of_ble_eq_true rfl⟩ rfl (k_51_2 (I := I) (A := A) hcn hc hsl (by omega) ?_)
    show mq 65 12 [some (.ref 1), some (.ref 23), some (.ref 60), none] [.int (nI (f (cn - 1))), .ref 1] (hS n u I A J B mk sn L xs X) _
    refine x_al1 (pc := 12) rfl rfl ?_
    refine x_k (pc := 13) rfl rfl rfl ⟨Nat.le_of_ble_eq_true rfl, Nat.le_of_ble_eq_true rfl, Nat.le_of_ble_eq_true rfl⟩ rfl (k_66_3 (I := I) (A := A) (D := dD S) (l := l) (p := p) (q := q) hD.2.1 (hf _ (by omega)) hl1 hl4 hB (fun I1 A1 f1 g1 h1 => ?_))
    show mq 65 16 [some (.ref 1), some (.ref 23), some (.ref 60), none] [] (hS n u I1 A1 J B mk sn L xs X) _
    refine x_al1 (pc := 16) rfl rfl ?_
    refine g_1_0 (pc := 17) rfl rfl ?_
    refine x_al1 (pc := 20) rfl rfl ?_
    refine x_k (pc := 21) rfl rfl rfl ⟨Nat.le_of_ble_eq_true rfl, Nat.le_of_ble_eq_true rfl, Nat.le_of_ble_eq_true rfl⟩ rfl (k_51_2 (I := I1) (A := A1) hcn ((f1 46 (by decide)).trans hc) (fun j hj => by rw [g1 38 (by decide)]; exact hsl j hj) (by omega) ?_)
    show mq 65 24 [some (.ref 1), some (.ref 23), some (.ref 60), none] [.int (nI (f (cn - 1))), .ref 2] (hS n u I1 A1 J B mk sn L xs X) _
    refine x_k (pc := 24) rfl rfl rfl ⟨Nat.le_of_ble_eq_true rfl, Nat.le_of_ble_eq_true rfl, Nat.le_of_ble_eq_true rfl⟩ rfl (mq_k (c_37 (I := I1) (A := A1) (D := dD S) (by rw [g1 0 (by decide)]; exact hD.2.1) (hf _ (by omega))) ?_)
    show mq 65 27 [some (.ref 1), some (.ref 23), some (.ref 60), none] [.int (nI (mB (dD S) (f (cn - 1))))] (hS n u I1 A1 J B mk sn L xs X) _
    refine x_al1 (pc := 27) rfl rfl ?_
    refine g_1_7 (pc := 28) rfl rfl ?_
    refine g_49_1 (pc := 31) (v := nI ((eBt (nI (bB (dD S) (f (cn - 1)))) p q l).length)) rfl rfl h1.1 ?_
    refine x_iaddN (pc := 34) (c := (mB (dD S) (f (cn - 1))) + ((eBt (nI (bB (dD S) (f (cn - 1)))) p q l).length)) rfl rfl ?_
    refine x_const (pc := 35) (pc' := 38) (.int (nI 128)) rfl rfl rfl rfl ?_
    have hel := eBt_len (nI (bB (dD S) (f (cn - 1)))) p q l
    have hmb := mB_lt hD.2.1.2.1 (f (cn - 1))
    refine x_cmpN_gt (pc := 38) (t := 46) rfl rfl (by omega) (by omega) (fun c38 => ?_) (fun c38 => ?_)
    · refine x_al1 (pc := 46) rfl rfl ?_
      refine g_1_0 (pc := 47) rfl rfl ?_
      refine x_k (pc := 50) rfl rfl rfl ⟨Nat.le_of_ble_eq_true rfl, Nat.le_of_ble_eq_true rfl, Nat.le_of_ble_eq_true rfl⟩ rfl (mq_k (c_71 (I := I1) (A := A1) (D := dD S) (by rw [g1 0 (by decide)]; exact hD.2.1)) ?_)
      show mq 65 53 [some (.ref 1), some (.ref 23), some (.ref 60), none] [.int (frS (dD S) 16 0)] (hS n u I1 A1 J B mk sn L xs X) _
      refine x_top (y := nI s) (hfr) ?_
      refine x_is1 (pc := 53) (ml' := [some (.ref 1), some (.ref 23), some (.ref 60), some (.int (nI s))]) rfl rfl ?_
      refine x_il1 (pc := 54) rfl rfl ?_
      refine x_ifN_lt (pc := 55) (t := 103) rfl rfl (by omega) ?_
      refine x_al1 (pc := 58) rfl rfl ?_
      refine g_1_8 (pc := 59) rfl rfl ?_
      refine x_const (pc := 62) (pc' := 64) (.int (nI 8)) rfl rfl rfl rfl ?_
      refine x_al1 (pc := 64) rfl rfl ?_
      refine g_23_0 (pc := 65) rfl rfl ?_
      refine x_const (pc := 68) (pc' := 69) (.int (nI 1)) rfl rfl rfl rfl ?_
      refine x_iaddN (pc := 69) (c := 3) rfl rfl ?_
      refine x_const (pc := 70) (pc' := 71) (.int (nI 0)) rfl rfl rfl rfl ?_
      refine x_al1 (pc := 71) rfl rfl ?_
      refine g_23_7 (pc := 72) (v := nI N) rfl rfl ((f1 48 (by decide)).trans hN) ?_
      refine x_k (pc := 75) rfl rfl rfl ⟨Nat.le_of_ble_eq_true rfl, Nat.le_of_ble_eq_true rfl, Nat.le_of_ble_eq_true rfl⟩ rfl (k_72_51 (I := I1) (A := A1) (m := 8) (o := 3) (g := 0) (b := N) (by decide) (by omega) (fun I2 A2 f2 g2 h2 => ?_))
      show mq 65 78 [some (.ref 1), some (.ref 23), some (.ref 60), some (.int (nI s))] [] (hS n u I2 A2 J B mk sn L xs X) _
      refine x_al1 (pc := 78) rfl rfl ?_
      refine x_il1 (pc := 79) rfl rfl ?_
      refine x_const (pc := 80) (pc' := 83) (.int (nI 128)) rfl rfl rfl rfl ?_
      refine x_imulV (pc := 83) (v := nI (128 * s)) rfl ((pk_mul _ _).trans (congrArg nI (Nat.mul_comm _ _))) ?_
      refine x_al1 (pc := 84) rfl rfl ?_
      refine g_1_8 (pc := 85) rfl rfl ?_
      refine x_const (pc := 88) (pc' := 89) (.int (nI 0)) rfl rfl rfl rfl ?_
      refine x_const (pc := 89) (pc' := 91) (.int (nI 32)) rfl rfl rfl rfl ?_
      refine x_k (pc := 91) rfl rfl rfl ⟨Nat.le_of_ble_eq_true rfl, Nat.le_of_ble_eq_true rfl, Nat.le_of_ble_eq_true rfl⟩ rfl (k_28_51 (I := I2) (A := A2) (S := S) (p := 128 * s) (f := 0) (c := 32) (t := hdr 8 3 0 N) (kD_on hD ho (show Fr [14, 15] I I2 from (Fr_cons (Fr_cons (Fr_refl _ _) f1 (by decide)) f2 (by decide))) (show Fr [3, 4] A A2 from (Fr_cons (Fr_cons (Fr_refl _ _) g1 (by decide)) g2 (by decide))) (by decide) (by decide)) ho hmk (gB0_by (hdr_by _ _ _ _)) (by omega) (by decide) h2 hn hu (fun o3 I3 A3 f3 g3 h3 => ?_) (fun o3 I3 A3 f3 g3 h3 => mK_x rfl (kx (ev ▸ o3) I3 A3 (Up_tr (Up_fr (show Fr [14, 15] I I2 from (Fr_cons (Fr_cons (Fr_refl _ _) f1 (by decide)) f2 (by decide))) (by decide)) f3) (Up_tr (Up_fr (show Fr [3, 4] A A2 from (Fr_cons (Fr_cons (Fr_refl _ _) g1 (by decide)) g2 (by decide))) (by decide)) g3) (ev ▸ h3))))
      show mq 65 94 [some (.ref 1), some (.ref 23), some (.ref 60), some (.int (nI s))] [] (hS n u I3 A3 J B mk sn L xs X) _
      refine x_al1 (pc := 94) rfl rfl ?_
      refine x_al1 (pc := 95) rfl rfl ?_
      refine g_23_5 (pc := 96) (v := nI cn) rfl rfl ((f3 46 (by decide)).trans ((f2 46 (by decide)).trans ((f1 46 (by decide)).trans hc))) ?_
      refine x_il1 (pc := 99) rfl rfl ?_
      refine x_k (pc := 100) rfl rfl rfl ⟨Nat.le_of_ble_eq_true rfl, Nat.le_of_ble_eq_true rfl, Nat.le_of_ble_eq_true rfl⟩ rfl (k_34e_2 (I := I3) (A := A3) (cn := cn) (s := s) hc16 ((f3 46 (by decide)).trans ((f2 46 (by decide)).trans ((f1 46 (by decide)).trans hc))) ?_)
      show mq 65 103 [some (.ref 1), some (.ref 23), some (.ref 60), some (.int (nI s))] [] (hS n u (va_up I3 46 (nI (cn + 1))) (va_up A3 38 (upd (A3 38) cn (nI s))) J B mk sn L xs X) _
      refine x_il1 (pc := 103) rfl rfl ?_
      refine x_ret (pc := 104) rfl rfl ?_
      exact kk (ev ▸ o3) _ _ (Fr_u (Fr_cons (Fr_cons (Fr_cons (Fr_refl _ _) f1 (by decide)) f2 (by decide)) f3 (by decide)) (by decide)) (Fr_u (Fr_cons (Fr_cons (Fr_cons (Fr_refl _ _) g1 (by decide)) g2 (by decide)) g3 (by decide)) (by decide)) (kD_on (ev ▸ h3) (ev ▸ o3) (Fr_up I3 46 _) (Fr_up A3 38 _) (by decide) (by decide)) rfl (show upd (A3 38) cn (nI s) = _ by rw [g3 38 (by decide), g2 38 (by decide), g1 38 (by decide)])
    · omega
set_option maxRecDepth 100000 in
set_option maxHeartbeats 4000000 in
theorem k_34e_3 {cn s : Nat} (hcn : cn < 16) (hc : I 49 = nI cn) {Q : mO × mHp → Prop} (kk : Q (.inl none, hS n u (va_up I 49 (nI (cn + 1))) (va_up A 42 (upd (A 42) cn (nI s))) J B mk sn L xs X)) : mq 34 0 [some (.ref 28), some (.int (nI cn)), some (.int (nI s)), none] [] (hS n u I A J B mk sn L xs X) Q := by
  refine x_al1 (pc := 0) rfl rfl ?_
  refine g_28_5 (pc := 1) (v := nI cn) rfl rfl hc ?_
  refine x_const (pc := 4) (pc' := 6) (.int (nI 16)) rfl rfl rfl rfl ?_
  refine x_cmpN_ge (pc := 6) (t := 21) rfl rfl (by omega) (by omega) (fun c6 => ?_) (fun c6 => ?_)
  · omega
  · refine x_il1 (pc := 9) rfl rfl ?_
    refine x_ifN_lt (pc := 10) (t := 21) rfl rfl (by omega) ?_
    refine x_il1 (pc := 13) rfl rfl ?_
    refine x_al1 (pc := 14) rfl rfl ?_
    refine g_28_5 (pc := 15) (v := nI cn) rfl rfl hc ?_
    refine x_cmpN_le (pc := 18) (t := 22) rfl rfl (by omega) (by omega) (fun c18 => ?_) (fun c18 => ?_)
    · refine x_al1 (pc := 22) rfl rfl ?_
      refine g_28_5 (pc := 23) (v := nI cn) rfl rfl hc ?_
      refine x_is1 (pc := 26) (ml' := [some (.ref 28), some (.int (nI cn)), some (.int (nI s)), some (.int (nI cn))]) rfl rfl ?_
      refine x_il1 (pc := 27) rfl rfl ?_
      refine x_il1 (pc := 28) rfl rfl ?_
      refine x_cmpN_le (pc := 29) (t := 52) rfl rfl (by omega) (by omega) (fun c29 => ?_) (fun c29 => ?_)
      · refine x_al1 (pc := 52) rfl rfl ?_
        refine g_28_1 (pc := 53) rfl rfl ?_
        refine x_il1 (pc := 56) rfl rfl ?_
        refine x_il1 (pc := 57) rfl rfl ?_
        refine as_29 (pc := 58) (q := cn) rfl rfl (by omega) ?_
        refine x_al1 (pc := 59) rfl rfl ?_
        refine x_step (pc := 60) (pc' := 61) (st' := [.ref 28, .ref 28]) rfl rfl rfl rfl ?_
        refine g_28_5 (pc := 61) (v := nI cn) rfl rfl hc ?_
        refine x_const (pc := 64) (pc' := 65) (.int (nI 1)) rfl rfl rfl rfl ?_
        refine x_iaddN (pc := 65) (c := cn + 1) rfl rfl ?_
        refine p_28_5 (pc := 66) rfl rfl ?_
        refine x_ret (pc := 69) rfl rfl ?_
        exact kk
      · omega
    · omega
set_option maxRecDepth 100000 in
set_option maxHeartbeats 4000000 in
theorem k_46_3_0 {p m : Nat} {q o : Int32} (hp : I 20 = nI p) (hp8 : p < 8) (hq : I 21 = q) (hm : I 22 = nI m) {Q : mO × mHp → Prop} (kk : ∀ A', Fr [43, 44, 45] A A' → A' 43 = upd (A 43) p q → A' 44 = upd (A 44) p (nI m) → A' 45 = upd (A 45) p o → Q (.inl none, hS n u I A' J B mk sn L xs X)) : mq 46 0 [some (.ref 28), some (.ref 5), some (.int o), none] [] (hS n u I A J B mk sn L xs X) Q := by
  refine x_al1 (pc := 0) rfl rfl ?_
  refine g_5_1 (pc := 1) (v := nI p) rfl rfl hp ?_
  refine x_is1 (pc := 4) (ml' := [some (.ref 28), some (.ref 5), some (.int o), some (.int (nI p))]) rfl rfl ?_
  refine x_il1 (pc := 5) rfl rfl ?_
  refine x_ifN_lt (pc := 6) (t := 45) rfl rfl (by omega) ?_
  refine x_il1 (pc := 9) rfl rfl ?_
  refine x_const (pc := 10) (pc' := 12) (.int (nI 8)) rfl rfl rfl rfl ?_
  refine x_cmpN_ge (pc := 12) (t := 45) rfl rfl (by omega) (by omega) (fun c12 => ?_) (fun c12 => ?_)
  · omega
  · refine x_al1 (pc := 15) rfl rfl ?_
    refine g_28_2 (pc := 16) rfl rfl ?_
    refine x_il1 (pc := 19) rfl rfl ?_
    refine x_al1 (pc := 20) rfl rfl ?_
    refine g_5_2 (pc := 21) (v := q) rfl rfl hq ?_
    refine as_30 (pc := 24) (q := p) rfl rfl (by omega) ?_
    refine x_al1 (pc := 25) rfl rfl ?_
    refine g_28_3 (pc := 26) rfl rfl ?_
    refine x_il1 (pc := 29) rfl rfl ?_
    refine x_al1 (pc := 30) rfl rfl ?_
    refine g_5_0 (pc := 31) rfl rfl ?_
    refine g_6_5 (pc := 34) (v := nI m) rfl rfl hm ?_
    refine as_31 (pc := 37) (q := p) rfl rfl (by omega) ?_
    refine x_al1 (pc := 38) rfl rfl ?_
    refine g_28_4 (pc := 39) rfl rfl ?_
    refine x_il1 (pc := 42) rfl rfl ?_
    refine x_il1 (pc := 43) rfl rfl ?_
    refine as_32 (pc := 44) (q := p) rfl rfl (by omega) ?_
    refine x_ret (pc := 45) rfl rfl ?_
    exact kk _ (Fr_u (Fr_u (Fr_u (Fr_refl _ _) (by decide)) (by decide)) (by decide)) rfl rfl rfl
set_option maxRecDepth 100000 in
set_option maxHeartbeats 4000000 in
theorem k_46n_3_0 {p : Nat} {o : Int32} (hp : I 20 = nI p) (hp8 : 8 ≤ p ∧ p < 256) {Q : mO × mHp → Prop} (kk : Q (.inl none, hS n u I A J B mk sn L xs X)) : mq 46 0 [some (.ref 28), some (.ref 5), some (.int o), none] [] (hS n u I A J B mk sn L xs X) Q := by
  refine x_al1 (pc := 0) rfl rfl ?_
  refine g_5_1 (pc := 1) (v := nI p) rfl rfl hp ?_
  refine x_is1 (pc := 4) (ml' := [some (.ref 28), some (.ref 5), some (.int o), some (.int (nI p))]) rfl rfl ?_
  refine x_il1 (pc := 5) rfl rfl ?_
  refine x_ifN_lt (pc := 6) (t := 45) rfl rfl (by omega) ?_
  refine x_il1 (pc := 9) rfl rfl ?_
  refine x_const (pc := 10) (pc' := 12) (.int (nI 8)) rfl rfl rfl rfl ?_
  refine x_cmpN_ge (pc := 12) (t := 45) rfl rfl (by omega) (by omega) (fun c12 => ?_) (fun c12 => ?_)
  · refine x_ret (pc := 45) rfl rfl ?_
    exact kk
  · omega
set_option maxRecDepth 100000 in
set_option maxHeartbeats 4000000 in
theorem k_46_3_2 {p m : Nat} {q o : Int32} (hp : I 26 = nI p) (hp8 : p < 8) (hq : I 27 = q) (hm : I 28 = nI m) {Q : mO × mHp → Prop} (kk : ∀ A', Fr [43, 44, 45] A A' → A' 43 = upd (A 43) p q → A' 44 = upd (A 44) p (nI m) → A' 45 = upd (A 45) p o → Q (.inl none, hS n u I A' J B mk sn L xs X)) : mq 46 0 [some (.ref 28), some (.ref 53), some (.int o), none] [] (hS n u I A J B mk sn L xs X) Q := by
  refine x_al1 (pc := 0) rfl rfl ?_
  refine g_53_1 (pc := 1) (v := nI p) rfl rfl hp ?_
  refine x_is1 (pc := 4) (ml' := [some (.ref 28), some (.ref 53), some (.int o), some (.int (nI p))]) rfl rfl ?_
  refine x_il1 (pc := 5) rfl rfl ?_
  refine x_ifN_lt (pc := 6) (t := 45) rfl rfl (by omega) ?_
  refine x_il1 (pc := 9) rfl rfl ?_
  refine x_const (pc := 10) (pc' := 12) (.int (nI 8)) rfl rfl rfl rfl ?_
  refine x_cmpN_ge (pc := 12) (t := 45) rfl rfl (by omega) (by omega) (fun c12 => ?_) (fun c12 => ?_)
  · omega
  · refine x_al1 (pc := 15) rfl rfl ?_
    refine g_28_2 (pc := 16) rfl rfl ?_
    refine x_il1 (pc := 19) rfl rfl ?_
    refine x_al1 (pc := 20) rfl rfl ?_
    refine g_53_2 (pc := 21) (v := q) rfl rfl hq ?_
    refine as_30 (pc := 24) (q := p) rfl rfl (by omega) ?_
    refine x_al1 (pc := 25) rfl rfl ?_
    refine g_28_3 (pc := 26) rfl rfl ?_
    refine x_il1 (pc := 29) rfl rfl ?_
    refine x_al1 (pc := 30) rfl rfl ?_
    refine g_53_0 (pc := 31) rfl rfl ?_
    refine g_54_5 (pc := 34) (v := nI m) rfl rfl hm ?_
    refine as_31 (pc := 37) (q := p) rfl rfl (by omega) ?_
    refine x_al1 (pc := 38) rfl rfl ?_
    refine g_28_4 (pc := 39) rfl rfl ?_
    refine x_il1 (pc := 42) rfl rfl ?_
    refine x_il1 (pc := 43) rfl rfl ?_
    refine as_32 (pc := 44) (q := p) rfl rfl (by omega) ?_
    refine x_ret (pc := 45) rfl rfl ?_
    exact kk _ (Fr_u (Fr_u (Fr_u (Fr_refl _ _) (by decide)) (by decide)) (by decide)) rfl rfl rfl
set_option maxRecDepth 100000 in
set_option maxHeartbeats 4000000 in
theorem k_46n_3_2 {p : Nat} {o : Int32} (hp : I 26 = nI p) (hp8 : 8 ≤ p ∧ p < 256) {Q : mO × mHp → Prop} (kk : Q (.inl none, hS n u I A J B mk sn L xs X)) : mq 46 0 [some (.ref 28), some (.ref 53), some (.int o), none] [] (hS n u I A J B mk sn L xs X) Q := by
  refine x_al1 (pc := 0) rfl rfl ?_
  refine g_53_1 (pc := 1) (v := nI p) rfl rfl hp ?_
  refine x_is1 (pc := 4) (ml' := [some (.ref 28), some (.ref 53), some (.int o), some (.int (nI p))]) rfl rfl ?_
  refine x_il1 (pc := 5) rfl rfl ?_
  refine x_ifN_lt (pc := 6) (t := 45) rfl rfl (by omega) ?_
  refine x_il1 (pc := 9) rfl rfl ?_
  refine x_const (pc := 10) (pc' := 12) (.int (nI 8)) rfl rfl rfl rfl ?_
  refine x_cmpN_ge (pc := 12) (t := 45) rfl rfl (by omega) (by omega) (fun c12 => ?_) (fun c12 => ?_)
  · refine x_ret (pc := 45) rfl rfl ?_
    exact kk
  · omega
set_option maxRecDepth 100000 in
set_option maxHeartbeats 4000000 in
theorem k_46_3_3 {p m : Nat} {q o : Int32} (hp : I 29 = nI p) (hp8 : p < 8) (hq : I 30 = q) (hm : I 31 = nI m) {Q : mO × mHp → Prop} (kk : ∀ A', Fr [43, 44, 45] A A' → A' 43 = upd (A 43) p q → A' 44 = upd (A 44) p (nI m) → A' 45 = upd (A 45) p o → Q (.inl none, hS n u I A' J B mk sn L xs X)) : mq 46 0 [some (.ref 28), some (.ref 60), some (.int o), none] [] (hS n u I A J B mk sn L xs X) Q := by
  refine x_al1 (pc := 0) rfl rfl ?_
  refine g_60_1 (pc := 1) (v := nI p) rfl rfl hp ?_
  refine x_is1 (pc := 4) (ml' := [some (.ref 28), some (.ref 60), some (.int o), some (.int (nI p))]) rfl rfl ?_
  refine x_il1 (pc := 5) rfl rfl ?_
  refine x_ifN_lt (pc := 6) (t := 45) rfl rfl (by omega) ?_
  refine x_il1 (pc := 9) rfl rfl ?_
  refine x_const (pc := 10) (pc' := 12) (.int (nI 8)) rfl rfl rfl rfl ?_
  refine x_cmpN_ge (pc := 12) (t := 45) rfl rfl (by omega) (by omega) (fun c12 => ?_) (fun c12 => ?_)
  · omega
  · refine x_al1 (pc := 15) rfl rfl ?_
    refine g_28_2 (pc := 16) rfl rfl ?_
    refine x_il1 (pc := 19) rfl rfl ?_
    refine x_al1 (pc := 20) rfl rfl ?_
    refine g_60_2 (pc := 21) (v := q) rfl rfl hq ?_
    refine as_30 (pc := 24) (q := p) rfl rfl (by omega) ?_
    refine x_al1 (pc := 25) rfl rfl ?_
    refine g_28_3 (pc := 26) rfl rfl ?_
    refine x_il1 (pc := 29) rfl rfl ?_
    refine x_al1 (pc := 30) rfl rfl ?_
    refine g_60_0 (pc := 31) rfl rfl ?_
    refine g_61_5 (pc := 34) (v := nI m) rfl rfl hm ?_
    refine as_31 (pc := 37) (q := p) rfl rfl (by omega) ?_
    refine x_al1 (pc := 38) rfl rfl ?_
    refine g_28_4 (pc := 39) rfl rfl ?_
    refine x_il1 (pc := 42) rfl rfl ?_
    refine x_il1 (pc := 43) rfl rfl ?_
    refine as_32 (pc := 44) (q := p) rfl rfl (by omega) ?_
    refine x_ret (pc := 45) rfl rfl ?_
    exact kk _ (Fr_u (Fr_u (Fr_u (Fr_refl _ _) (by decide)) (by decide)) (by decide)) rfl rfl rfl
set_option maxRecDepth 100000 in
set_option maxHeartbeats 4000000 in
theorem k_46n_3_3 {p : Nat} {o : Int32} (hp : I 29 = nI p) (hp8 : 8 ≤ p ∧ p < 256) {Q : mO × mHp → Prop} (kk : Q (.inl none, hS n u I A J B mk sn L xs X)) : mq 46 0 [some (.ref 28), some (.ref 60), some (.int o), none] [] (hS n u I A J B mk sn L xs X) Q := by
  refine x_al1 (pc := 0) rfl rfl ?_
  refine g_60_1 (pc := 1) (v := nI p) rfl rfl hp ?_
  refine x_is1 (pc := 4) (ml' := [some (.ref 28), some (.ref 60), some (.int o), some (.int (nI p))]) rfl rfl ?_
  refine x_il1 (pc := 5) rfl rfl ?_
  refine x_ifN_lt (pc := 6) (t := 45) rfl rfl (by omega) ?_
  refine x_il1 (pc := 9) rfl rfl ?_
  refine x_const (pc := 10) (pc' := 12) (.int (nI 8)) rfl rfl rfl rfl ?_
  refine x_cmpN_ge (pc := 12) (t := 45) rfl rfl (by omega) (by omega) (fun c12 => ?_) (fun c12 => ?_)
  · refine x_ret (pc := 45) rfl rfl ?_
    exact kk
  · omega
set_option maxRecDepth 100000 in
set_option maxHeartbeats 4000000 in
theorem k_65a_3_2 {cn N : Nat} {f : Nat → Nat} {l : List R5} {p q : Int32} {S : DS} (hD : kD mk S I A) (ho : dO S = false) (hcn : cn ≤ 16) (hc : I 49 = nI cn) (hf : ∀ k, k < cn → f k < 16) (hsl : ∀ j, j < cn → A 42 j = nI (f j)) (hN : I 51 = nI N) (hNb : N + 4 < 2 ^ 31) (hB : BT 2 I A l p q) (hl1 : 1 ≤ l.length) (hl4 : l.length ≤ 4) (hp : 0 < cn) (hfit : mB (dD S) (f (cn - 1)) + (eBt (nI (bB (dD S) (f (cn - 1)))) p q l).length ≤ 128) {Q : mO × mHp → Prop} (kk : ∀ I' A', Fr [14] I I' → Fr [3] A A' → Q (.inl (some (.int (nI (f (cn - 1))))), hS n u I' A' J B mk sn L xs X)) : mq 65 0 [some (.ref 1), some (.ref 28), some (.ref 53), none] [] (hS n u I A J B mk sn L xs X) Q := by
  refine x_al1 (pc := 0) rfl rfl ?_
  refine g_28_5 (pc := 1) (v := nI cn) rfl rfl hc ?_
  refine x_ifN_le (pc := 4) (t := 46) rfl rfl (by omega) (fun c4 => ?_) (fun c4 => ?_)
  · omega
  · refine x_al1 (pc := 7) rfl rfl ?_
    refine x_al1 (pc := 8) rfl rfl ?_
    refine x_k (pc := 9) rfl rfl rfl ⟨Nat.le_of_ble_eq_true rfl, Nat.le_of_ble_eq_true rfl, Nat.le_of_ble_eq_true rfl⟩ rfl (k_51_3 (I := I) (A := A) hcn hc hsl (by omega) ?_)
    show mq 65 12 [some (.ref 1), some (.ref 28), some (.ref 53), none] [.int (nI (f (cn - 1))), .ref 1] (hS n u I A J B mk sn L xs X) _
    refine x_al1 (pc := 12) rfl rfl ?_
    refine x_k (pc := 13) rfl rfl rfl ⟨Nat.le_of_ble_eq_true rfl, Nat.le_of_ble_eq_true rfl, Nat.le_of_ble_eq_true rfl⟩ rfl (k_66_2 (I := I) (A := A) (D := dD S) (l := l) (p := p) (q := q) hD.2.1 (hf _ (by omega)) hl1 hl4 hB (fun I1 A1 f1 g1 h1 => ?_))
    show mq 65 16 [some (.ref 1), some (.ref 28), some (.ref 53), none] [] (hS n u I1 A1 J B mk sn L xs X) _
    refine x_al1 (pc := 16) rfl rfl ?_
    refine g_1_0 (pc := 17) rfl rfl ?_
    refine x_al1 (pc := 20) rfl rfl ?_
    refine x_k (pc := 21) rfl rfl rfl ⟨Nat.le_of_ble_eq_true rfl, Nat.le_of_ble_eq_true rfl, Nat.le_of_ble_eq_true rfl⟩ rfl (k_51_3 (I := I1) (A := A1) hcn ((f1 49 (by decide)).trans hc) (fun j hj => by rw [g1 42 (by decide)]; exact hsl j hj) (by omega) ?_)
    show mq 65 24 [some (.ref 1), some (.ref 28), some (.ref 53), none] [.int (nI (f (cn - 1))), .ref 2] (hS n u I1 A1 J B mk sn L xs X) _
    refine x_k (pc := 24) rfl rfl rfl ⟨Nat.le_of_ble_eq_true rfl, Nat.le_of_ble_eq_true rfl, Nat.le_of_ble_eq_true rfl⟩ rfl (mq_k (c_37 (I := I1) (A := A1) (D := dD S) (by rw [g1 0 (by decide)]; exact hD.2.1) (hf _ (by omega))) ?_)
    show mq 65 27 [some (.ref 1), some (.ref 28), some (.ref 53), none] [.int (nI (mB (dD S) (f (cn - 1))))] (hS n u I1 A1 J B mk sn L xs X) _
    refine x_al1 (pc := 27) rfl rfl ?_
    refine g_1_7 (pc := 28) rfl rfl ?_
    refine g_49_1 (pc := 31) (v := nI ((eBt (nI (bB (dD S) (f (cn - 1)))) p q l).length)) rfl rfl h1.1 ?_
    refine x_iaddN (pc := 34) (c := (mB (dD S) (f (cn - 1))) + ((eBt (nI (bB (dD S) (f (cn - 1)))) p q l).length)) rfl rfl ?_
    refine x_const (pc := 35) (pc' := 38) (.int (nI 128)) rfl rfl rfl rfl ?_
    have hel := eBt_len (nI (bB (dD S) (f (cn - 1)))) p q l
    have hmb := mB_lt hD.2.1.2.1 (f (cn - 1))
    refine x_cmpN_gt (pc := 38) (t := 46) rfl rfl (by omega) (by omega) (fun c38 => ?_) (fun c38 => ?_)
    · omega
    · refine x_al1 (pc := 41) rfl rfl ?_
      refine x_k (pc := 42) rfl rfl rfl ⟨Nat.le_of_ble_eq_true rfl, Nat.le_of_ble_eq_true rfl, Nat.le_of_ble_eq_true rfl⟩ rfl (k_51_3 (I := I1) (A := A1) hcn ((f1 49 (by decide)).trans hc) (fun j hj => by rw [g1 42 (by decide)]; exact hsl j hj) (by omega) ?_)
      show mq 65 45 [some (.ref 1), some (.ref 28), some (.ref 53), none] [.int (nI (f (cn - 1)))] (hS n u I1 A1 J B mk sn L xs X) _
      refine x_ret (pc := 45) rfl rfl ?_
      exact kk _ _ (Fr_cons (Fr_refl _ _) f1 (by decide)) (Fr_cons (Fr_refl _ _) g1 (by decide))
set_option maxRecDepth 100000 in
set_option maxHeartbeats 4000000 in
theorem k_65c_3_2 {cn N : Nat} {f : Nat → Nat} {l : List R5} {p q : Int32} {S : DS} (hD : kD mk S I A) (ho : dO S = false) (hcn : cn ≤ 16) (hc : I 49 = nI cn) (hf : ∀ k, k < cn → f k < 16) (hsl : ∀ j, j < cn → A 42 j = nI (f j)) (hN : I 51 = nI N) (hNb : N + 4 < 2 ^ 31) (hB : BT 2 I A l p q) (hl1 : 1 ≤ l.length) (hl4 : l.length ≤ 4) (hnf : cn = 0 ∨ 128 < mB (dD S) (f (cn - 1)) + (eBt (nI (bB (dD S) (f (cn - 1)))) p q l).length) (hfr : frS (dD S) 16 0 = -1) {Q : mO × mHp → Prop} (kk : ∀ I' A', Fr [14] I I' → Fr [3] A A' → Q (.inl (some (.int (-1))), hS n u I' A' J B mk sn L xs X)) : mq 65 0 [some (.ref 1), some (.ref 28), some (.ref 53), none] [] (hS n u I A J B mk sn L xs X) Q := by
  refine x_al1 (pc := 0) rfl rfl ?_
  refine g_28_5 (pc := 1) (v := nI cn) rfl rfl hc ?_
  refine x_ifN_le (pc := 4) (t := 46) rfl rfl (by omega) (fun c4 => ?_) (fun c4 => ?_)
  · refine x_al1 (pc := 46) rfl rfl ?_
    refine g_1_0 (pc := 47) rfl rfl ?_
    refine x_k (pc := 50) rfl rfl rfl ⟨Nat.le_of_ble_eq_true rfl, Nat.le_of_ble_eq_true rfl, Nat.le_of_ble_eq_true rfl⟩ rfl (mq_k (c_71 (I := I) (A := A) (D := dD S) hD.2.1) ?_)
    show mq 65 53 [some (.ref 1), some (.ref 28), some (.ref 53), none] [.int (frS (dD S) 16 0)] (hS n u I A J B mk sn L xs X) _
    refine x_top (y := (-1)) (hfr) ?_
    refine x_is1 (pc := 53) (ml' := [some (.ref 1), some (.ref 28), some (.ref 53), some (.int (-1))]) rfl rfl ?_
    refine x_il1 (pc := 54) rfl rfl ?_
    refine x_if_lt (pc := 55) (t := 103) rfl rfl rfl (fun _ => ?_) (fun c => absurd (by decide) c)
    refine x_il1 (pc := 103) rfl rfl ?_
    refine x_ret (pc := 104) rfl rfl ?_
    exact kk _ _ (Fr_refl _ _) (Fr_refl _ _)
  · refine x_al1 (pc := 7) rfl rfl ?_
    refine x_al1 (pc := 8) rfl rfl ?_
    refine x_k (pc := 9) rfl rfl rfl ⟨Nat.le_of_ble_eq_true rfl, Nat.le_of_ble_eq_true rfl, Nat.le_of_ble_eq_true rfl⟩ rfl (k_51_3 (I := I) (A := A) hcn hc hsl (by omega) ?_)
    show mq 65 12 [some (.ref 1), some (.ref 28), some (.ref 53), none] [.int (nI (f (cn - 1))), .ref 1] (hS n u I A J B mk sn L xs X) _
    refine x_al1 (pc := 12) rfl rfl ?_
    refine x_k (pc := 13) rfl rfl rfl ⟨Nat.le_of_ble_eq_true rfl, Nat.le_of_ble_eq_true rfl, Nat.le_of_ble_eq_true rfl⟩ rfl (k_66_2 (I := I) (A := A) (D := dD S) (l := l) (p := p) (q := q) hD.2.1 (hf _ (by omega)) hl1 hl4 hB (fun I1 A1 f1 g1 h1 => ?_))
    show mq 65 16 [some (.ref 1), some (.ref 28), some (.ref 53), none] [] (hS n u I1 A1 J B mk sn L xs X) _
    refine x_al1 (pc := 16) rfl rfl ?_
    refine g_1_0 (pc := 17) rfl rfl ?_
    refine x_al1 (pc := 20) rfl rfl ?_
    refine x_k (pc := 21) rfl rfl rfl ⟨Nat.le_of_ble_eq_true rfl, Nat.le_of_ble_eq_true rfl, Nat.le_of_ble_eq_true rfl⟩ rfl (k_51_3 (I := I1) (A := A1) hcn ((f1 49 (by decide)).trans hc) (fun j hj => by rw [g1 42 (by decide)]; exact hsl j hj) (by omega) ?_)
    show mq 65 24 [some (.ref 1), some (.ref 28), some (.ref 53), none] [.int (nI (f (cn - 1))), .ref 2] (hS n u I1 A1 J B mk sn L xs X) _
    refine x_k (pc := 24) rfl rfl rfl ⟨Nat.le_of_ble_eq_true rfl, Nat.le_of_ble_eq_true rfl, Nat.le_of_ble_eq_true rfl⟩ rfl (mq_k (c_37 (I := I1) (A := A1) (D := dD S) (by rw [g1 0 (by decide)]; exact hD.2.1) (hf _ (by omega))) ?_)
    show mq 65 27 [some (.ref 1), some (.ref 28), some (.ref 53), none] [.int (nI (mB (dD S) (f (cn - 1))))] (hS n u I1 A1 J B mk sn L xs X) _
    refine x_al1 (pc := 27) rfl rfl ?_
    refine g_1_7 (pc := 28) rfl rfl ?_
    refine g_49_1 (pc := 31) (v := nI ((eBt (nI (bB (dD S) (f (cn - 1)))) p q l).length)) rfl rfl h1.1 ?_
    refine x_iaddN (pc := 34) (c := (mB (dD S) (f (cn - 1))) + ((eBt (nI (bB (dD S) (f (cn - 1)))) p q l).length)) rfl rfl ?_
    refine x_const (pc := 35) (pc' := 38) (.int (nI 128)) rfl rfl rfl rfl ?_
    have hel := eBt_len (nI (bB (dD S) (f (cn - 1)))) p q l
    have hmb := mB_lt hD.2.1.2.1 (f (cn - 1))
    refine x_cmpN_gt (pc := 38) (t := 46) rfl rfl (by omega) (by omega) (fun c38 => ?_) (fun c38 => ?_)
    · refine x_al1 (pc := 46) rfl rfl ?_
      refine g_1_0 (pc := 47) rfl rfl ?_
      refine x_k (pc := 50) rfl rfl rfl ⟨Nat.le_of_ble_eq_true rfl, Nat.le_of_ble_eq_true rfl, Nat.le_of_ble_eq_true rfl⟩ rfl (mq_k (c_71 (I := I1) (A := A1) (D := dD S) (by rw [g1 0 (by decide)]; exact hD.2.1)) ?_)
      show mq 65 53 [some (.ref 1), some (.ref 28), some (.ref 53), none] [.int (frS (dD S) 16 0)] (hS n u I1 A1 J B mk sn L xs X) _
      refine x_top (y := (-1)) (hfr) ?_
      refine x_is1 (pc := 53) (ml' := [some (.ref 1), some (.ref 28), some (.ref 53), some (.int (-1))]) rfl rfl ?_
      refine x_il1 (pc := 54) rfl rfl ?_
      refine x_if_lt (pc := 55) (t := 103) rfl rfl rfl (fun _ => ?_) (fun c => absurd (by decide) c)
      refine x_il1 (pc := 103) rfl rfl ?_
      refine x_ret (pc := 104) rfl rfl ?_
      exact kk _ _ (Fr_cons (Fr_refl _ _) f1 (by decide)) (Fr_cons (Fr_refl _ _) g1 (by decide))
    · omega
set_option maxRecDepth 100000 in
set_option maxHeartbeats 4000000 in
theorem k_65b_3_2 {cn N : Nat} {f : Nat → Nat} {l : List R5} {p q : Int32} {S : DS} (hD : kD mk S I A) (ho : dO S = false) (hcn : cn ≤ 16) (hc : I 49 = nI cn) (hf : ∀ k, k < cn → f k < 16) (hsl : ∀ j, j < cn → A 42 j = nI (f j)) (hN : I 51 = nI N) (hNb : N + 4 < 2 ^ 31) (hB : BT 2 I A l p q) (hl1 : 1 ≤ l.length) (hl4 : l.length ≤ 4) (hnf : cn = 0 ∨ 128 < mB (dD S) (f (cn - 1)) + (eBt (nI (bB (dD S) (f (cn - 1)))) p q l).length) {s : Nat} (hs : s < 16) (hfr : frS (dD S) 16 0 = nI s) (hc16 : cn < 16) (hmk : mks mk sn) (hn : 77 ≤ n ∧ n < 10000) (hu : u + 6 < 1000000) {Q : mO × mHp → Prop} (kk : dO (wr1 S (hdW s 3 N)) = false → ∀ I' A', Fr [2, 3, 14, 15, 49] I I' → Fr [0, 3, 4, 42] A A' → kD mk (wr1 S (hdW s 3 N)) I' A' → I' 49 = nI (cn + 1) → A' 42 = upd (A 42) cn (nI s) → Q (.inl (some (.int (nI s))), hS n u I' A' J B mk sn L xs X)) (kx : dO (wr1 S (hdW s 3 N)) = true → ∀ I' A', Up 60 I I' → Up 50 A A' → kD mk (wr1 S (hdW s 3 N)) I' A' → Q (.inr n, hS (n + 1) (u + 6) I' A' J B mk sn L xs (va_up X n (.inr (9, []))))) : mq 65 0 [some (.ref 1), some (.ref 28), some (.ref 53), none] [] (hS n u I A J B mk sn L xs X) Q := by
  have ev : wr1 S (wi (128 * s) 32 (fun i => gB0 (hdr 8 4 0 N) (0 + i))) = wr1 S (hdW s 3 N) := wr1_ext (fun i _ => by rw [Nat.zero_add])
  refine x_al1 (pc := 0) rfl rfl ?_
  refine g_28_5 (pc := 1) (v := nI cn) rfl rfl hc ?_
  refine x_ifN_le (pc := 4) (t := 46) rfl rfl (by omega) (fun c4 => ?_) (fun c4 => ?_)
  · refine x_al1 (pc := 46) rfl rfl ?_
    refine g_1_0 (pc := 47) rfl rfl ?_
    refine x_k (pc := 50) rfl rfl rfl ⟨Nat.le_of_ble_eq_true rfl, Nat.le_of_ble_eq_true rfl, Nat.le_of_ble_eq_true rfl⟩ rfl (mq_k (c_71 (I := I) (A := A) (D := dD S) hD.2.1) ?_)
    show mq 65 53 [some (.ref 1), some (.ref 28), some (.ref 53), none] [.int (frS (dD S) 16 0)] (hS n u I A J B mk sn L xs X) _
    refine x_top (y := nI s) (hfr) ?_
    refine x_is1 (pc := 53) (ml' := [some (.ref 1), some (.ref 28), some (.ref 53), some (.int (nI s))]) rfl rfl ?_
    refine x_il1 (pc := 54) rfl rfl ?_
    refine x_ifN_lt (pc := 55) (t := 103) rfl rfl (by omega) ?_
    refine x_al1 (pc := 58) rfl rfl ?_
    refine g_1_8 (pc := 59) rfl rfl ?_
    refine x_const (pc := 62) (pc' := 64) (.int (nI 8)) rfl rfl rfl rfl ?_
    refine x_al1 (pc := 64) rfl rfl ?_
    refine g_28_0 (pc := 65) rfl rfl ?_
    refine x_const (pc := 68) (pc' := 69) (.int (nI 1)) rfl rfl rfl rfl ?_
    refine x_iaddN (pc := 69) (c := 4) rfl rfl ?_
    refine x_const (pc := 70) (pc' := 71) (.int (nI 0)) rfl rfl rfl rfl ?_
    refine x_al1 (pc := 71) rfl rfl ?_
    refine g_28_7 (pc := 72) (v := nI N) rfl rfl hN ?_
    refine x_k (pc := 75) rfl rfl rfl ⟨Nat.le_of_ble_eq_true rfl, Nat.le_of_ble_eq_true rfl, Nat.le_of_ble_eq_true rfl⟩ rfl (k_72_51 (I := I) (A := A) (m := 8) (o := 4) (g := 0) (b := N) (by decide) (by omega) (fun I2 A2 f2 g2 h2 => ?_))
    show mq 65 78 [some (.ref 1), some (.ref 28), some (.ref 53), some (.int (nI s))] [] (hS n u I2 A2 J B mk sn L xs X) _
    refine x_al1 (pc := 78) rfl rfl ?_
    refine x_il1 (pc := 79) rfl rfl ?_
    refine x_const (pc := 80) (pc' := 83) (.int (nI 128)) rfl rfl rfl rfl ?_
    refine x_imulV (pc := 83) (v := nI (128 * s)) rfl ((pk_mul _ _).trans (congrArg nI (Nat.mul_comm _ _))) ?_
    refine x_al1 (pc := 84) rfl rfl ?_
    refine g_1_8 (pc := 85) rfl rfl ?_
    refine x_const (pc := 88) (pc' := 89) (.int (nI 0)) rfl rfl rfl rfl ?_
    refine x_const (pc := 89) (pc' := 91) (.int (nI 32)) rfl rfl rfl rfl ?_
    refine x_k (pc := 91) rfl rfl rfl ⟨Nat.le_of_ble_eq_true rfl, Nat.le_of_ble_eq_true rfl, Nat.le_of_ble_eq_true rfl⟩ rfl (k_28_51 (I := I2) (A := A2) (S := S) (p := 128 * s) (f := 0) (c := 32) (t := hdr 8 4 0 N) (kD_on hD ho (show Fr [14, 15] I I2 from (Fr_cons (Fr_refl _ _) f2 (by decide))) (show Fr [3, 4] A A2 from (Fr_cons (Fr_refl _ _) g2 (by decide))) (by decide) (by decide)) ho hmk (gB0_by (hdr_by _ _ _ _)) (by omega) (by decide) h2 hn hu (fun o3 I3 A3 f3 g3 h3 => ?_) (fun o3 I3 A3 f3 g3 h3 => mK_x rfl (kx (ev ▸ o3) I3 A3 (Up_tr (Up_fr (show Fr [14, 15] I I2 from (Fr_cons (Fr_refl _ _) f2 (by decide))) (by decide)) f3) (Up_tr (Up_fr (show Fr [3, 4] A A2 from (Fr_cons (Fr_refl _ _) g2 (by decide))) (by decide)) g3) (ev ▸ h3))))
    show mq 65 94 [some (.ref 1), some (.ref 28), some (.ref 53), some (.int (nI s))] [] (hS n u I3 A3 J B mk sn L xs X) _
    refine x_al1 (pc := 94) rfl rfl ?_
    refine x_al1 (pc := 95) rfl rfl ?_
    refine g_28_5 (pc := 96) (v := nI cn) rfl rfl ((f3 49 (by decide)).trans ((f2 49 (by decide)).trans hc)) ?_
    refine x_il1 (pc := 99) rfl rfl ?_
    refine x_k (pc := 100) rfl rfl rfl ⟨Nat.le_of_ble_eq_true rfl, Nat.le_of_ble_eq_true rfl, Nat.le_of_ble_eq_true rfl⟩ rfl (k_34e_3 (I := I3) (A := A3) (cn := cn) (s := s) hc16 ((f3 49 (by decide)).trans ((f2 49 (by decide)).trans hc)) ?_)
    show mq 65 103 [some (.ref 1), some (.ref 28), some (.ref 53), some (.int (nI s))] [] (hS n u (va_up I3 49 (nI (cn + 1))) (va_up A3 42 (upd (A3 42) cn (nI s))) J B mk sn L xs X) _
    refine x_il1 (pc := 103) rfl rfl ?_
    refine x_ret (pc := 104) rfl rfl ?_
    exact kk (ev ▸ o3) _ _ (Fr_u (Fr_cons (Fr_cons (Fr_refl _ _) f2 (by decide)) f3 (by decide)) (by decide)) (Fr_u (Fr_cons (Fr_cons (Fr_refl _ _) g2 (by decide)) g3 (by decide)) (by decide)) (kD_on (ev ▸ h3) (ev ▸ o3) (Fr_up I3 49 _) (Fr_up A3 42 _) (by decide) (by decide)) rfl (show upd (A3 42) cn (nI s) = _ by rw [g3 42 (by decide), g2 42 (by decide)])
  · refine x_al1 (pc := 7) rfl rfl ?_
    refine x_al1 (pc := 8) rfl rfl ?_
    refine x_k (pc := 9) rfl rfl rfl ⟨Nat.le_of_ble_eq_true rfl, Nat.le_of_ble_eq_true rfl, Nat.le_of_ble_eq_true rfl⟩ rfl (k_51_3 (I := I) (A := A) hcn hc hsl (by omega) ?_)
    show mq 65 12 [some (.ref 1), some (.ref 28), some (.ref 53), none] [.int (nI (f (cn - 1))), .ref 1] (hS n u I A J B mk sn L xs X) _
    refine x_al1 (pc := 12) rfl rfl ?_
    refine x_k (pc := 13) rfl rfl rfl ⟨Nat.le_of_ble_eq_true rfl, Nat.le_of_ble_eq_true rfl, Nat.le_of_ble_eq_true rfl⟩ rfl (k_66_2 (I := I) (A := A) (D := dD S) (l := l) (p := p) (q := q) hD.2.1 (hf _ (by omega)) hl1 hl4 hB (fun I1 A1 f1 g1 h1 => ?_))
    show mq 65 16 [some (.ref 1), some (.ref 28), some (.ref 53), none] [] (hS n u I1 A1 J B mk sn L xs X) _
    refine x_al1 (pc := 16) rfl rfl ?_
    refine g_1_0 (pc := 17) rfl rfl ?_
    refine x_al1 (pc := 20) rfl rfl ?_
    refine x_k (pc := 21) rfl rfl rfl ⟨Nat.le_of_ble_eq_true rfl, Nat.le_of_ble_eq_true rfl, Nat.le_of_ble_eq_true rfl⟩ rfl (k_51_3 (I := I1) (A := A1) hcn ((f1 49 (by decide)).trans hc) (fun j hj => by rw [g1 42 (by decide)]; exact hsl j hj) (by omega) ?_)
    show mq 65 24 [some (.ref 1), some (.ref 28), some (.ref 53), none] [.int (nI (f (cn - 1))), .ref 2] (hS n u I1 A1 J B mk sn L xs X) _
    refine x_k (pc := 24) rfl rfl rfl ⟨Nat.le_of_ble_eq_true rfl, Nat.le_of_ble_eq_true rfl, Nat.le_of_ble_eq_true rfl⟩ rfl (mq_k (c_37 (I := I1) (A := A1) (D := dD S) (by rw [g1 0 (by decide)]; exact hD.2.1) (hf _ (by omega))) ?_)
    show mq 65 27 [some (.ref 1), some (.ref 28), some (.ref 53), none] [.int (nI (mB (dD S) (f (cn - 1))))] (hS n u I1 A1 J B mk sn L xs X) _
    refine x_al1 (pc := 27) rfl rfl ?_
    refine g_1_7 (pc := 28) rfl rfl ?_
    refine g_49_1 (pc := 31) (v := nI ((eBt (nI (bB (dD S) (f (cn - 1)))) p q l).length)) rfl rfl h1.1 ?_
    refine x_iaddN (pc := 34) (c := (mB (dD S) (f (cn - 1))) + ((eBt (nI (bB (dD S) (f (cn - 1)))) p q l).length)) rfl rfl ?_
    refine x_const (pc := 35) (pc' := 38) (.int (nI 128)) rfl rfl rfl rfl ?_
    have hel := eBt_len (nI (bB (dD S) (f (cn - 1)))) p q l
    have hmb := mB_lt hD.2.1.2.1 (f (cn - 1))
    refine x_cmpN_gt (pc := 38) (t := 46) rfl rfl (by omega) (by omega) (fun c38 => ?_) (fun c38 => ?_)
    · refine x_al1 (pc := 46) rfl rfl ?_
      refine g_1_0 (pc := 47) rfl rfl ?_
      refine x_k (pc := 50) rfl rfl rfl ⟨Nat.le_of_ble_eq_true rfl, Nat.le_of_ble_eq_true rfl, Nat.le_of_ble_eq_true rfl⟩ rfl (mq_k (c_71 (I := I1) (A := A1) (D := dD S) (by rw [g1 0 (by decide)]; exact hD.2.1)) ?_)
      show mq 65 53 [some (.ref 1), some (.ref 28), some (.ref 53), none] [.int (frS (dD S) 16 0)] (hS n u I1 A1 J B mk sn L xs X) _
      refine x_top (y := nI s) (hfr) ?_
      refine x_is1 (pc := 53) (ml' := [some (.ref 1), some (.ref 28), some (.ref 53), some (.int (nI s))]) rfl rfl ?_
      refine x_il1 (pc := 54) rfl rfl ?_
      refine x_ifN_lt (pc := 55) (t := 103) rfl rfl (by omega) ?_
      refine x_al1 (pc := 58) rfl rfl ?_
      refine g_1_8 (pc := 59) rfl rfl ?_
      refine x_const (pc := 62) (pc' := 64) (.int (nI 8)) rfl rfl rfl rfl ?_
      refine x_al1 (pc := 64) rfl rfl ?_
      refine g_28_0 (pc := 65) rfl rfl ?_
      refine x_const (pc := 68) (pc' := 69) (.int (nI 1)) rfl rfl rfl rfl ?_
      refine x_iaddN (pc := 69) (c := 4) rfl rfl ?_
      refine x_const (pc := 70) (pc' := 71) (.int (nI 0)) rfl rfl rfl rfl ?_
      refine x_al1 (pc := 71) rfl rfl ?_
      refine g_28_7 (pc := 72) (v := nI N) rfl rfl ((f1 51 (by decide)).trans hN) ?_
      refine x_k (pc := 75) rfl rfl rfl ⟨Nat.le_of_ble_eq_true rfl, Nat.le_of_ble_eq_true rfl, Nat.le_of_ble_eq_true rfl⟩ rfl (k_72_51 (I := I1) (A := A1) (m := 8) (o := 4) (g := 0) (b := N) (by decide) (by omega) (fun I2 A2 f2 g2 h2 => ?_))
      show mq 65 78 [some (.ref 1), some (.ref 28), some (.ref 53), some (.int (nI s))] [] (hS n u I2 A2 J B mk sn L xs X) _
      refine x_al1 (pc := 78) rfl rfl ?_
      refine x_il1 (pc := 79) rfl rfl ?_
      refine x_const (pc := 80) (pc' := 83) (.int (nI 128)) rfl rfl rfl rfl ?_
      refine x_imulV (pc := 83) (v := nI (128 * s)) rfl ((pk_mul _ _).trans (congrArg nI (Nat.mul_comm _ _))) ?_
      refine x_al1 (pc := 84) rfl rfl ?_
      refine g_1_8 (pc := 85) rfl rfl ?_
      refine x_const (pc := 88) (pc' := 89) (.int (nI 0)) rfl rfl rfl rfl ?_
      refine x_const (pc := 89) (pc' := 91) (.int (nI 32)) rfl rfl rfl rfl ?_
      refine x_k (pc := 91) rfl rfl rfl ⟨Nat.le_of_ble_eq_true rfl, Nat.le_of_ble_eq_true rfl, Nat.le_of_ble_eq_true rfl⟩ rfl (k_28_51 (I := I2) (A := A2) (S := S) (p := 128 * s) (f := 0) (c := 32) (t := hdr 8 4 0 N) (kD_on hD ho (show Fr [14, 15] I I2 from (Fr_cons (Fr_cons (Fr_refl _ _) f1 (by decide)) f2 (by decide))) (show Fr [3, 4] A A2 from (Fr_cons (Fr_cons (Fr_refl _ _) g1 (by decide)) g2 (by decide))) (by decide) (by decide)) ho hmk (gB0_by (hdr_by _ _ _ _)) (by omega) (by decide) h2 hn hu (fun o3 I3 A3 f3 g3 h3 => ?_) (fun o3 I3 A3 f3 g3 h3 => mK_x rfl (kx (ev ▸ o3) I3 A3 (Up_tr (Up_fr (show Fr [14, 15] I I2 from (Fr_cons (Fr_cons (Fr_refl _ _) f1 (by decide)) f2 (by decide))) (by decide)) f3) (Up_tr (Up_fr (show Fr [3, 4] A A2 from (Fr_cons (Fr_cons (Fr_refl _ _) g1 (by decide)) g2 (by decide))) (by decide)) g3) (ev ▸ h3))))
      show mq 65 94 [some (.ref 1), some (.ref 28), some (.ref 53), some (.int (nI s))] [] (hS n u I3 A3 J B mk sn L xs X) _
      refine x_al1 (pc := 94) rfl rfl ?_
      refine x_al1 (pc := 95) rfl rfl ?_
      refine g_28_5 (pc := 96) (v := nI cn) rfl rfl ((f3 49 (by decide)).trans ((f2 49 (by decide)).trans ((f1 49 (by decide)).trans hc))) ?_
      refine x_il1 (pc := 99) rfl rfl ?_
      refine x_k (pc := 100) rfl rfl rfl ⟨Nat.le_of_ble_eq_true rfl, Nat.le_of_ble_eq_true rfl, Nat.le_of_ble_eq_true rfl⟩ rfl (k_34e_3 (I := I3) (A := A3) (cn := cn) (s := s) hc16 ((f3 49 (by decide)).trans ((f2 49 (by decide)).trans ((f1 49 (by decide)).trans hc))) ?_)
      show mq 65 103 [some (.ref 1), some (.ref 28), some (.ref 53), some (.int (nI s))] [] (hS n u (va_up I3 49 (nI (cn + 1))) (va_up A3 42 (upd (A3 42) cn (nI s))) J B mk sn L xs X) _
      refine x_il1 (pc := 103) rfl rfl ?_
      refine x_ret (pc := 104) rfl rfl ?_
      exact kk (ev ▸ o3) _ _ (Fr_u (Fr_cons (Fr_cons (Fr_cons (Fr_refl _ _) f1 (by decide)) f2 (by decide)) f3 (by decide)) (by decide)) (Fr_u (Fr_cons (Fr_cons (Fr_cons (Fr_refl _ _) g1 (by decide)) g2 (by decide)) g3 (by decide)) (by decide)) (kD_on (ev ▸ h3) (ev ▸ o3) (Fr_up I3 49 _) (Fr_up A3 42 _) (by decide) (by decide)) rfl (show upd (A3 42) cn (nI s) = _ by rw [g3 42 (by decide), g2 42 (by decide), g1 42 (by decide)])
    · omega
set_option maxRecDepth 100000 in
set_option maxHeartbeats 4000000 in
theorem k_65a_3_3 {cn N : Nat} {f : Nat → Nat} {l : List R5} {p q : Int32} {S : DS} (hD : kD mk S I A) (ho : dO S = false) (hcn : cn ≤ 16) (hc : I 49 = nI cn) (hf : ∀ k, k < cn → f k < 16) (hsl : ∀ j, j < cn → A 42 j = nI (f j)) (hN : I 51 = nI N) (hNb : N + 4 < 2 ^ 31) (hB : BT 3 I A l p q) (hl1 : 1 ≤ l.length) (hl4 : l.length ≤ 4) (hp : 0 < cn) (hfit : mB (dD S) (f (cn - 1)) + (eBt (nI (bB (dD S) (f (cn - 1)))) p q l).length ≤ 128) {Q : mO × mHp → Prop} (kk : ∀ I' A', Fr [14] I I' → Fr [3] A A' → Q (.inl (some (.int (nI (f (cn - 1))))), hS n u I' A' J B mk sn L xs X)) : mq 65 0 [some (.ref 1), some (.ref 28), some (.ref 60), none] [] (hS n u I A J B mk sn L xs X) Q := by
  refine x_al1 (pc := 0) rfl rfl ?_
  refine g_28_5 (pc := 1) (v := nI cn) rfl rfl hc ?_
  refine x_ifN_le (pc := 4) (t := 46) rfl rfl (by omega) (fun c4 => ?_) (fun c4 => ?_)
  · omega
  · refine x_al1 (pc := 7) rfl rfl ?_
    refine x_al1 (pc := 8) rfl rfl ?_
    refine x_k (pc := 9) rfl rfl rfl ⟨Nat.le_of_ble_eq_true rfl, Nat.le_of_ble_eq_true rfl, Nat.le_of_ble_eq_true rfl⟩ rfl (k_51_3 (I := I) (A := A) hcn hc hsl (by omega) ?_)
    show mq 65 12 [some (.ref 1), some (.ref 28), some (.ref 60), none] [.int (nI (f (cn - 1))), .ref 1] (hS n u I A J B mk sn L xs X) _
    refine x_al1 (pc := 12) rfl rfl ?_
    refine x_k (pc := 13) rfl rfl rfl ⟨Nat.le_of_ble_eq_true rfl, Nat.le_of_ble_eq_true rfl, Nat.le_of_ble_eq_true rfl⟩ rfl (k_66_3 (I := I) (A := A) (D := dD S) (l := l) (p := p) (q := q) hD.2.1 (hf _ (by omega)) hl1 hl4 hB (fun I1 A1 f1 g1 h1 => ?_))
    show mq 65 16 [some (.ref 1), some (.ref 28), some (.ref 60), none] [] (hS n u I1 A1 J B mk sn L xs X) _
    refine x_al1 (pc := 16) rfl rfl ?_
    refine g_1_0 (pc := 17) rfl rfl ?_
    refine x_al1 (pc := 20) rfl rfl ?_
    refine x_k (pc := 21) rfl rfl rfl ⟨Nat.le_of_ble_eq_true rfl, Nat.le_of_ble_eq_true rfl, Nat.le_of_ble_eq_true rfl⟩ rfl (k_51_3 (I := I1) (A := A1) hcn ((f1 49 (by decide)).trans hc) (fun j hj => by rw [g1 42 (by decide)]; exact hsl j hj) (by omega) ?_)
    show mq 65 24 [some (.ref 1), some (.ref 28), some (.ref 60), none] [.int (nI (f (cn - 1))), .ref 2] (hS n u I1 A1 J B mk sn L xs X) _
    refine x_k (pc := 24) rfl rfl rfl ⟨Nat.le_of_ble_eq_true rfl, Nat.le_of_ble_eq_true rfl, Nat.le_of_ble_eq_true rfl⟩ rfl (mq_k (c_37 (I := I1) (A := A1) (D := dD S) (by rw [g1 0 (by decide)]; exact hD.2.1) (hf _ (by omega))) ?_)
    show mq 65 27 [some (.ref 1), some (.ref 28), some (.ref 60), none] [.int (nI (mB (dD S) (f (cn - 1))))] (hS n u I1 A1 J B mk sn L xs X) _
    refine x_al1 (pc := 27) rfl rfl ?_
    refine g_1_7 (pc := 28) rfl rfl ?_
    refine g_49_1 (pc := 31) (v := nI ((eBt (nI (bB (dD S) (f (cn - 1)))) p q l).length)) rfl rfl h1.1 ?_
    refine x_iaddN (pc := 34) (c := (mB (dD S) (f (cn - 1))) + ((eBt (nI (bB (dD S) (f (cn - 1)))) p q l).length)) rfl rfl ?_
    refine x_const (pc := 35) (pc' := 38) (.int (nI 128)) rfl rfl rfl rfl ?_
    have hel := eBt_len (nI (bB (dD S) (f (cn - 1)))) p q l
    have hmb := mB_lt hD.2.1.2.1 (f (cn - 1))
    refine x_cmpN_gt (pc := 38) (t := 46) rfl rfl (by omega) (by omega) (fun c38 => ?_) (fun c38 => ?_)
    · omega
    · refine x_al1 (pc := 41) rfl rfl ?_
      refine x_k (pc := 42) rfl rfl rfl ⟨Nat.le_of_ble_eq_true rfl, Nat.le_of_ble_eq_true rfl, Nat.le_of_ble_eq_true rfl⟩ rfl (k_51_3 (I := I1) (A := A1) hcn ((f1 49 (by decide)).trans hc) (fun j hj => by rw [g1 42 (by decide)]; exact hsl j hj) (by omega) ?_)
      show mq 65 45 [some (.ref 1), some (.ref 28), some (.ref 60), none] [.int (nI (f (cn - 1)))] (hS n u I1 A1 J B mk sn L xs X) _
      refine x_ret (pc := 45) rfl rfl ?_
      exact kk _ _ (Fr_cons (Fr_refl _ _) f1 (by decide)) (Fr_cons (Fr_refl _ _) g1 (by decide))
set_option maxRecDepth 100000 in
set_option maxHeartbeats 4000000 in
theorem k_65c_3_3 {cn N : Nat} {f : Nat → Nat} {l : List R5} {p q : Int32} {S : DS} (hD : kD mk S I A) (ho : dO S = false) (hcn : cn ≤ 16) (hc : I 49 = nI cn) (hf : ∀ k, k < cn → f k < 16) (hsl : ∀ j, j < cn → A 42 j = nI (f j)) (hN : I 51 = nI N) (hNb : N + 4 < 2 ^ 31) (hB : BT 3 I A l p q) (hl1 : 1 ≤ l.length) (hl4 : l.length ≤ 4) (hnf : cn = 0 ∨ 128 < mB (dD S) (f (cn - 1)) + (eBt (nI (bB (dD S) (f (cn - 1)))) p q l).length) (hfr : frS (dD S) 16 0 = -1) {Q : mO × mHp → Prop} (kk : ∀ I' A', Fr [14] I I' → Fr [3] A A' → Q (.inl (some (.int (-1))), hS n u I' A' J B mk sn L xs X)) : mq 65 0 [some (.ref 1), some (.ref 28), some (.ref 60), none] [] (hS n u I A J B mk sn L xs X) Q := by
  refine x_al1 (pc := 0) rfl rfl ?_
  refine g_28_5 (pc := 1) (v := nI cn) rfl rfl hc ?_
  refine x_ifN_le (pc := 4) (t := 46) rfl rfl (by omega) (fun c4 => ?_) (fun c4 => ?_)
  · refine x_al1 (pc := 46) rfl rfl ?_
    refine g_1_0 (pc := 47) rfl rfl ?_
    refine x_k (pc := 50) rfl rfl rfl ⟨Nat.le_of_ble_eq_true rfl, Nat.le_of_ble_eq_true rfl, Nat.le_of_ble_eq_true rfl⟩ rfl (mq_k (c_71 (I := I) (A := A) (D := dD S) hD.2.1) ?_)
    show mq 65 53 [some (.ref 1), some (.ref 28), some (.ref 60), none] [.int (frS (dD S) 16 0)] (hS n u I A J B mk sn L xs X) _
    refine x_top (y := (-1)) (hfr) ?_
    refine x_is1 (pc := 53) (ml' := [some (.ref 1), some (.ref 28), some (.ref 60), some (.int (-1))]) rfl rfl ?_
    refine x_il1 (pc := 54) rfl rfl ?_
    refine x_if_lt (pc := 55) (t := 103) rfl rfl rfl (fun _ => ?_) (fun c => absurd (by decide) c)
    refine x_il1 (pc := 103) rfl rfl ?_
    refine x_ret (pc := 104) rfl rfl ?_
    exact kk _ _ (Fr_refl _ _) (Fr_refl _ _)
  · refine x_al1 (pc := 7) rfl rfl ?_
    refine x_al1 (pc := 8) rfl rfl ?_
    refine x_k (pc := 9) rfl rfl rfl ⟨Nat.le_of_ble_eq_true rfl, Nat.le_of_ble_eq_true rfl, Nat.le_of_ble_eq_true rfl⟩ rfl (k_51_3 (I := I) (A := A) hcn hc hsl (by omega) ?_)
    show mq 65 12 [some (.ref 1), some (.ref 28), some (.ref 60), none] [.int (nI (f (cn - 1))), .ref 1] (hS n u I A J B mk sn L xs X) _
    refine x_al1 (pc := 12) rfl rfl ?_
    refine x_k (pc := 13) rfl rfl rfl ⟨Nat.le_of_ble_eq_true rfl, Nat.le_of_ble_eq_true rfl, Nat.le_of_ble_eq_true rfl⟩ rfl (k_66_3 (I := I) (A := A) (D := dD S) (l := l) (p := p) (q := q) hD.2.1 (hf _ (by omega)) hl1 hl4 hB (fun I1 A1 f1 g1 h1 => ?_))
    show mq 65 16 [some (.ref 1), some (.ref 28), some (.ref 60), none] [] (hS n u I1 A1 J B mk sn L xs X) _
    refine x_al1 (pc := 16) rfl rfl ?_
    refine g_1_0 (pc := 17) rfl rfl ?_
    refine x_al1 (pc := 20) rfl rfl ?_
    refine x_k (pc := 21) rfl rfl rfl ⟨Nat.le_of_ble_eq_true rfl, Nat.le_of_ble_eq_true rfl, Nat.le_of_ble_eq_true rfl⟩ rfl (k_51_3 (I := I1) (A := A1) hcn ((f1 49 (by decide)).trans hc) (fun j hj => by rw [g1 42 (by decide)]; exact hsl j hj) (by omega) ?_)
    show mq 65 24 [some (.ref 1), some (.ref 28), some (.ref 60), none] [.int (nI (f (cn - 1))), .ref 2] (hS n u I1 A1 J B mk sn L xs X) _
    refine x_k (pc := 24) rfl rfl rfl ⟨Nat.le_of_ble_eq_true rfl, Nat.le_of_ble_eq_true rfl, Nat.le_of_ble_eq_true rfl⟩ rfl (mq_k (c_37 (I := I1) (A := A1) (D := dD S) (by rw [g1 0 (by decide)]; exact hD.2.1) (hf _ (by omega))) ?_)
    show mq 65 27 [some (.ref 1), some (.ref 28), some (.ref 60), none] [.int (nI (mB (dD S) (f (cn - 1))))] (hS n u I1 A1 J B mk sn L xs X) _
    refine x_al1 (pc := 27) rfl rfl ?_
    refine g_1_7 (pc := 28) rfl rfl ?_
    refine g_49_1 (pc := 31) (v := nI ((eBt (nI (bB (dD S) (f (cn - 1)))) p q l).length)) rfl rfl h1.1 ?_
    refine x_iaddN (pc := 34) (c := (mB (dD S) (f (cn - 1))) + ((eBt (nI (bB (dD S) (f (cn - 1)))) p q l).length)) rfl rfl ?_
    refine x_const (pc := 35) (pc' := 38) (.int (nI 128)) rfl rfl rfl rfl ?_
    have hel := eBt_len (nI (bB (dD S) (f (cn - 1)))) p q l
    have hmb := mB_lt hD.2.1.2.1 (f (cn - 1))
    refine x_cmpN_gt (pc := 38) (t := 46) rfl rfl (by omega) (by omega) (fun c38 => ?_) (fun c38 => ?_)
    · refine x_al1 (pc := 46) rfl rfl ?_
      refine g_1_0 (pc := 47) rfl rfl ?_
      refine x_k (pc := 50) rfl rfl rfl ⟨Nat.le_of_ble_eq_true rfl, Nat.le_of_ble_eq_true rfl, Nat.le_of_ble_eq_true rfl⟩ rfl (mq_k (c_71 (I := I1) (A := A1) (D := dD S) (by rw [g1 0 (by decide)]; exact hD.2.1)) ?_)
      show mq 65 53 [some (.ref 1), some (.ref 28), some (.ref 60), none] [.int (frS (dD S) 16 0)] (hS n u I1 A1 J B mk sn L xs X) _
      refine x_top (y := (-1)) (hfr) ?_
      refine x_is1 (pc := 53) (ml' := [some (.ref 1), some (.ref 28), some (.ref 60), some (.int (-1))]) rfl rfl ?_
      refine x_il1 (pc := 54) rfl rfl ?_
      refine x_if_lt (pc := 55) (t := 103) rfl rfl rfl (fun _ => ?_) (fun c => absurd (by decide) c)
      refine x_il1 (pc := 103) rfl rfl ?_
      refine x_ret (pc := 104) rfl rfl ?_
      exact kk _ _ (Fr_cons (Fr_refl _ _) f1 (by decide)) (Fr_cons (Fr_refl _ _) g1 (by decide))
    · omega
set_option maxRecDepth 100000 in
set_option maxHeartbeats 4000000 in
theorem k_65b_3_3 {cn N : Nat} {f : Nat → Nat} {l : List R5} {p q : Int32} {S : DS} (hD : kD mk S I A) (ho : dO S = false) (hcn : cn ≤ 16) (hc : I 49 = nI cn) (hf : ∀ k, k < cn → f k < 16) (hsl : ∀ j, j < cn → A 42 j = nI (f j)) (hN : I 51 = nI N) (hNb : N + 4 < 2 ^ 31) (hB : BT 3 I A l p q) (hl1 : 1 ≤ l.length) (hl4 : l.length ≤ 4) (hnf : cn = 0 ∨ 128 < mB (dD S) (f (cn - 1)) + (eBt (nI (bB (dD S) (f (cn - 1)))) p q l).length) {s : Nat} (hs : s < 16) (hfr : frS (dD S) 16 0 = nI s) (hc16 : cn < 16) (hmk : mks mk sn) (hn : 77 ≤ n ∧ n < 10000) (hu : u + 6 < 1000000) {Q : mO × mHp → Prop} (kk : dO (wr1 S (hdW s 3 N)) = false → ∀ I' A', Fr [2, 3, 14, 15, 49] I I' → Fr [0, 3, 4, 42] A A' → kD mk (wr1 S (hdW s 3 N)) I' A' → I' 49 = nI (cn + 1) → A' 42 = upd (A 42) cn (nI s) → Q (.inl (some (.int (nI s))), hS n u I' A' J B mk sn L xs X)) (kx : dO (wr1 S (hdW s 3 N)) = true → ∀ I' A', Up 60 I I' → Up 50 A A' → kD mk (wr1 S (hdW s 3 N)) I' A' → Q (.inr n, hS (n + 1) (u + 6) I' A' J B mk sn L xs (va_up X n (.inr (9, []))))) : mq 65 0 [some (.ref 1), some (.ref 28), some (.ref 60), none] [] (hS n u I A J B mk sn L xs X) Q := by
  have ev : wr1 S (wi (128 * s) 32 (fun i => gB0 (hdr 8 4 0 N) (0 + i))) = wr1 S (hdW s 3 N) := wr1_ext (fun i _ => by rw [Nat.zero_add])
  refine x_al1 (pc := 0) rfl rfl ?_
  refine g_28_5 (pc := 1) (v := nI cn) rfl rfl hc ?_
  refine x_ifN_le (pc := 4) (t := 46) rfl rfl (by omega) (fun c4 => ?_) (fun c4 => ?_)
  · refine x_al1 (pc := 46) rfl rfl ?_
    refine g_1_0 (pc := 47) rfl rfl ?_
    refine x_k (pc := 50) rfl rfl rfl ⟨Nat.le_of_ble_eq_true rfl, Nat.le_of_ble_eq_true rfl, Nat.le_of_ble_eq_true rfl⟩ rfl (mq_k (c_71 (I := I) (A := A) (D := dD S) hD.2.1) ?_)
    show mq 65 53 [some (.ref 1), some (.ref 28), some (.ref 60), none] [.int (frS (dD S) 16 0)] (hS n u I A J B mk sn L xs X) _
    refine x_top (y := nI s) (hfr) ?_
    refine x_is1 (pc := 53) (ml' := [some (.ref 1), some (.ref 28), some (.ref 60), some (.int (nI s))]) rfl rfl ?_
    refine x_il1 (pc := 54) rfl rfl ?_
    refine x_ifN_lt (pc := 55) (t := 103) rfl rfl (by omega) ?_
    refine x_al1 (pc := 58) rfl rfl ?_
    refine g_1_8 (pc := 59) rfl rfl ?_
    refine x_const (pc := 62) (pc' := 64) (.int (nI 8)) rfl rfl rfl rfl ?_
    refine x_al1 (pc := 64) rfl rfl ?_
    refine g_28_0 (pc := 65) rfl rfl ?_
    refine x_const (pc := 68) (pc' := 69) (.int (nI 1)) rfl rfl rfl rfl ?_
    refine x_iaddN (pc := 69) (c := 4) rfl rfl ?_
    refine x_const (pc := 70) (pc' := 71) (.int (nI 0)) rfl rfl rfl rfl ?_
    refine x_al1 (pc := 71) rfl rfl ?_
    refine g_28_7 (pc := 72) (v := nI N) rfl rfl hN ?_
    refine x_k (pc := 75) rfl rfl rfl ⟨Nat.le_of_ble_eq_true rfl, Nat.le_of_ble_eq_true rfl, Nat.le_of_ble_eq_true rfl⟩ rfl (k_72_51 (I := I) (A := A) (m := 8) (o := 4) (g := 0) (b := N) (by decide) (by omega) (fun I2 A2 f2 g2 h2 => ?_))
    show mq 65 78 [some (.ref 1), some (.ref 28), some (.ref 60), some (.int (nI s))] [] (hS n u I2 A2 J B mk sn L xs X) _
    refine x_al1 (pc := 78) rfl rfl ?_
    refine x_il1 (pc := 79) rfl rfl ?_
    refine x_const (pc := 80) (pc' := 83) (.int (nI 128)) rfl rfl rfl rfl ?_
    refine x_imulV (pc := 83) (v := nI (128 * s)) rfl ((pk_mul _ _).trans (congrArg nI (Nat.mul_comm _ _))) ?_
    refine x_al1 (pc := 84) rfl rfl ?_
    refine g_1_8 (pc := 85) rfl rfl ?_
    refine x_const (pc := 88) (pc' := 89) (.int (nI 0)) rfl rfl rfl rfl ?_
    refine x_const (pc := 89) (pc' := 91) (.int (nI 32)) rfl rfl rfl rfl ?_
    refine x_k (pc := 91) rfl rfl rfl ⟨Nat.le_of_ble_eq_true rfl, Nat.le_of_ble_eq_true rfl, Nat.le_of_ble_eq_true rfl⟩ rfl (k_28_51 (I := I2) (A := A2) (S := S) (p := 128 * s) (f := 0) (c := 32) (t := hdr 8 4 0 N) (kD_on hD ho (show Fr [14, 15] I I2 from (Fr_cons (Fr_refl _ _) f2 (by decide))) (show Fr [3, 4] A A2 from (Fr_cons (Fr_refl _ _) g2 (by decide))) (by decide) (by decide)) ho hmk (gB0_by (hdr_by _ _ _ _)) (by omega) (by decide) h2 hn hu (fun o3 I3 A3 f3 g3 h3 => ?_) (fun o3 I3 A3 f3 g3 h3 => mK_x rfl (kx (ev ▸ o3) I3 A3 (Up_tr (Up_fr (show Fr [14, 15] I I2 from (Fr_cons (Fr_refl _ _) f2 (by decide))) (by decide)) f3) (Up_tr (Up_fr (show Fr [3, 4] A A2 from (Fr_cons (Fr_refl _ _) g2 (by decide))) (by decide)) g3) (ev ▸ h3))))
    show mq 65 94 [some (.ref 1), some (.ref 28), some (.ref 60), some (.int (nI s))] [] (hS n u I3 A3 J B mk sn L xs X) _
    refine x_al1 (pc := 94) rfl rfl ?_
    refine x_al1 (pc := 95) rfl rfl ?_
    refine g_28_5 (pc := 96) (v := nI cn) rfl rfl ((f3 49 (by decide)).trans ((f2 49 (by decide)).trans hc)) ?_
    refine x_il1 (pc := 99) rfl rfl ?_
    refine x_k (pc := 100) rfl rfl rfl ⟨Nat.le_of_ble_eq_true rfl, Nat.le_of_ble_eq_true rfl, Nat.le_of_ble_eq_true rfl⟩ rfl (k_34e_3 (I := I3) (A := A3) (cn := cn) (s := s) hc16 ((f3 49 (by decide)).trans ((f2 49 (by decide)).trans hc)) ?_)
    show mq 65 103 [some (.ref 1), some (.ref 28), some (.ref 60), some (.int (nI s))] [] (hS n u (va_up I3 49 (nI (cn + 1))) (va_up A3 42 (upd (A3 42) cn (nI s))) J B mk sn L xs X) _
    refine x_il1 (pc := 103) rfl rfl ?_
    refine x_ret (pc := 104) rfl rfl ?_
    exact kk (ev ▸ o3) _ _ (Fr_u (Fr_cons (Fr_cons (Fr_refl _ _) f2 (by decide)) f3 (by decide)) (by decide)) (Fr_u (Fr_cons (Fr_cons (Fr_refl _ _) g2 (by decide)) g3 (by decide)) (by decide)) (kD_on (ev ▸ h3) (ev ▸ o3) (Fr_up I3 49 _) (Fr_up A3 42 _) (by decide) (by decide)) rfl (show upd (A3 42) cn (nI s) = _ by rw [g3 42 (by decide), g2 42 (by decide)])
  · refine x_al1 (pc := 7) rfl rfl ?_
    refine x_al1 (pc := 8) rfl rfl ?_
    refine x_k (pc := 9) rfl rfl rfl ⟨Nat.le_of_ble_eq_true rfl, Nat.le_of_ble_eq_true rfl, Nat.le_of_ble_eq_true rfl⟩ rfl (k_51_3 (I := I) (A := A) hcn hc hsl (by omega) ?_)
    show mq 65 12 [some (.ref 1), some (.ref 28), some (.ref 60), none] [.int (nI (f (cn - 1))), .ref 1] (hS n u I A J B mk sn L xs X) _
    refine x_al1 (pc := 12) rfl rfl ?_
    refine x_k (pc := 13) rfl rfl rfl ⟨Nat.le_of_ble_eq_true rfl, Nat.le_of_ble_eq_true rfl, Nat.le_of_ble_eq_true rfl⟩ rfl (k_66_3 (I := I) (A := A) (D := dD S) (l := l) (p := p) (q := q) hD.2.1 (hf _ (by omega)) hl1 hl4 hB (fun I1 A1 f1 g1 h1 => ?_))
    show mq 65 16 [some (.ref 1), some (.ref 28), some (.ref 60), none] [] (hS n u I1 A1 J B mk sn L xs X) _
    refine x_al1 (pc := 16) rfl rfl ?_
    refine g_1_0 (pc := 17) rfl rfl ?_
    refine x_al1 (pc := 20) rfl rfl ?_
    refine x_k (pc := 21) rfl rfl rfl ⟨Nat.le_of_ble_eq_true rfl, Nat.le_of_ble_eq_true rfl, Nat.le_of_ble_eq_true rfl⟩ rfl (k_51_3 (I := I1) (A := A1) hcn ((f1 49 (by decide)).trans hc) (fun j hj => by rw [g1 42 (by decide)]; exact hsl j hj) (by omega) ?_)
    show mq 65 24 [some (.ref 1), some (.ref 28), some (.ref 60), none] [.int (nI (f (cn - 1))), .ref 2] (hS n u I1 A1 J B mk sn L xs X) _
    refine x_k (pc := 24) rfl rfl rfl ⟨Nat.le_of_ble_eq_true rfl, Nat.le_of_ble_eq_true rfl, Nat.le_of_ble_eq_true rfl⟩ rfl (mq_k (c_37 (I := I1) (A := A1) (D := dD S) (by rw [g1 0 (by decide)]; exact hD.2.1) (hf _ (by omega))) ?_)
    show mq 65 27 [some (.ref 1), some (.ref 28), some (.ref 60), none] [.int (nI (mB (dD S) (f (cn - 1))))] (hS n u I1 A1 J B mk sn L xs X) _
    refine x_al1 (pc := 27) rfl rfl ?_
    refine g_1_7 (pc := 28) rfl rfl ?_
    refine g_49_1 (pc := 31) (v := nI ((eBt (nI (bB (dD S) (f (cn - 1)))) p q l).length)) rfl rfl h1.1 ?_
    refine x_iaddN (pc := 34) (c := (mB (dD S) (f (cn - 1))) + ((eBt (nI (bB (dD S) (f (cn - 1)))) p q l).length)) rfl rfl ?_
    refine x_const (pc := 35) (pc' := 38) (.int (nI 128)) rfl rfl rfl rfl ?_
    have hel := eBt_len (nI (bB (dD S) (f (cn - 1)))) p q l
    have hmb := mB_lt hD.2.1.2.1 (f (cn - 1))
    refine x_cmpN_gt (pc := 38) (t := 46) rfl rfl (by omega) (by omega) (fun c38 => ?_) (fun c38 => ?_)
    · refine x_al1 (pc := 46) rfl rfl ?_
      refine g_1_0 (pc := 47) rfl rfl ?_
      refine x_k (pc := 50) rfl rfl rfl ⟨Nat.le_of_ble_eq_true rfl, Nat.le_of_ble_eq_true rfl, Nat.le_of_ble_eq_true rfl⟩ rfl (mq_k (c_71 (I := I1) (A := A1) (D := dD S) (by rw [g1 0 (by decide)]; exact hD.2.1)) ?_)
      show mq 65 53 [some (.ref 1), some (.ref 28), some (.ref 60), none] [.int (frS (dD S) 16 0)] (hS n u I1 A1 J B mk sn L xs X) _
      refine x_top (y := nI s) (hfr) ?_
      refine x_is1 (pc := 53) (ml' := [some (.ref 1), some (.ref 28), some (.ref 60), some (.int (nI s))]) rfl rfl ?_
      refine x_il1 (pc := 54) rfl rfl ?_
      refine x_ifN_lt (pc := 55) (t := 103) rfl rfl (by omega) ?_
      refine x_al1 (pc := 58) rfl rfl ?_
      refine g_1_8 (pc := 59) rfl rfl ?_
      refine x_const (pc := 62) (pc' := 64) (.int (nI 8)) rfl rfl rfl rfl ?_
      refine x_al1 (pc := 64) rfl rfl ?_
      refine g_28_0 (pc := 65) rfl rfl ?_
      refine x_const (pc := 68) (pc' := 69) (.int (nI 1)) rfl rfl rfl rfl ?_
      refine x_iaddN (pc := 69) (c := 4) rfl rfl ?_
      refine x_const (pc := 70) (pc' := 71) (.int (nI 0)) rfl rfl rfl rfl ?_
      refine x_al1 (pc := 71) rfl rfl ?_
      refine g_28_7 (pc := 72) (v := nI N) rfl rfl ((f1 51 (by decide)).trans hN) ?_
      refine x_k (pc := 75) rfl rfl rfl ⟨Nat.le_of_ble_eq_true rfl, Nat.le_of_ble_eq_true rfl, Nat.le_of_ble_eq_true rfl⟩ rfl (k_72_51 (I := I1) (A := A1) (m := 8) (o := 4) (g := 0) (b := N) (by decide) (by omega) (fun I2 A2 f2 g2 h2 => ?_))
      show mq 65 78 [some (.ref 1), some (.ref 28), some (.ref 60), some (.int (nI s))] [] (hS n u I2 A2 J B mk sn L xs X) _
      refine x_al1 (pc := 78) rfl rfl ?_
      refine x_il1 (pc := 79) rfl rfl ?_
      refine x_const (pc := 80) (pc' := 83) (.int (nI 128)) rfl rfl rfl rfl ?_
      refine x_imulV (pc := 83) (v := nI (128 * s)) rfl ((pk_mul _ _).trans (congrArg nI (Nat.mul_comm _ _))) ?_
      refine x_al1 (pc := 84) rfl rfl ?_
      refine g_1_8 (pc := 85) rfl rfl ?_
      refine x_const (pc := 88) (pc' := 89) (.int (nI 0)) rfl rfl rfl rfl ?_
      refine x_const (pc := 89) (pc' := 91) (.int (nI 32)) rfl rfl rfl rfl ?_
      refine x_k (pc := 91) rfl rfl rfl ⟨Nat.le_of_ble_eq_true rfl, Nat.le_of_ble_eq_true rfl, Nat.le_of_ble_eq_true rfl⟩ rfl (k_28_51 (I := I2) (A := A2) (S := S) (p := 128 * s) (f := 0) (c := 32) (t := hdr 8 4 0 N) (kD_on hD ho (show Fr [14, 15] I I2 from (Fr_cons (Fr_cons (Fr_refl _ _) f1 (by decide)) f2 (by decide))) (show Fr [3, 4] A A2 from (Fr_cons (Fr_cons (Fr_refl _ _) g1 (by decide)) g2 (by decide))) (by decide) (by decide)) ho hmk (gB0_by (hdr_by _ _ _ _)) (by omega) (by decide) h2 hn hu (fun o3 I3 A3 f3 g3 h3 => ?_) (fun o3 I3 A3 f3 g3 h3 => mK_x rfl (kx (ev ▸ o3) I3 A3 (Up_tr (Up_fr (show Fr [14, 15] I I2 from (Fr_cons (Fr_cons (Fr_refl _ _) f1 (by decide)) f2 (by decide))) (by decide)) f3) (Up_tr (Up_fr (show Fr [3, 4] A A2 from (Fr_cons (Fr_cons (Fr_refl _ _) g1 (by decide)) g2 (by decide))) (by decide)) g3) (ev ▸ h3))))
      show mq 65 94 [some (.ref 1), some (.ref 28), some (.ref 60), some (.int (nI s))] [] (hS n u I3 A3 J B mk sn L xs X) _
      refine x_al1 (pc := 94) rfl rfl ?_
      refine x_al1 (pc := 95) rfl rfl ?_
      refine g_28_5 (pc := 96) (v := nI cn) rfl rfl ((f3 49 (by decide)).trans ((f2 49 (by decide)).trans ((f1 49 (by decide)).trans hc))) ?_
      refine x_il1 (pc := 99) rfl rfl ?_
      refine x_k (pc := 100) rfl rfl rfl ⟨Nat.le_of_ble_eq_true rfl, Nat.le_of_ble_eq_true rfl, Nat.le_of_ble_eq_true rfl⟩ rfl (k_34e_3 (I := I3) (A := A3) (cn := cn) (s := s) hc16 ((f3 49 (by decide)).trans ((f2 49 (by decide)).trans ((f1 49 (by decide)).trans hc))) ?_)
      show mq 65 103 [some (.ref 1), some (.ref 28), some (.ref 60), some (.int (nI s))] [] (hS n u (va_up I3 49 (nI (cn + 1))) (va_up A3 42 (upd (A3 42) cn (nI s))) J B mk sn L xs X) _
      refine x_il1 (pc := 103) rfl rfl ?_
      refine x_ret (pc := 104) rfl rfl ?_
      exact kk (ev ▸ o3) _ _ (Fr_u (Fr_cons (Fr_cons (Fr_cons (Fr_refl _ _) f1 (by decide)) f2 (by decide)) f3 (by decide)) (by decide)) (Fr_u (Fr_cons (Fr_cons (Fr_cons (Fr_refl _ _) g1 (by decide)) g2 (by decide)) g3 (by decide)) (by decide)) (kD_on (ev ▸ h3) (ev ▸ o3) (Fr_up I3 49 _) (Fr_up A3 42 _) (by decide) (by decide)) rfl (show upd (A3 42) cn (nI s) = _ by rw [g3 42 (by decide), g2 42 (by decide), g1 42 (by decide)])
    · omega
end S53
