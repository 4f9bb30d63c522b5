/-! Pages: bytes on their way to the disk. -/
/-- the lowest byte -/
def b8 (x : Int32) : Nat := x.toBitVec.toNat % 256
theorem b8_lt (x : Int32) : b8 x < 256 := Nat.mod_lt _ (by decide)
theorem and255 (x : Int32) : x &&& nI 255 = nI (b8 x) := by
  apply Int32.toBitVec_inj.mp
  apply BitVec.eq_of_toNat_eq
  show (x.toBitVec &&& BitVec.ofNat 32 255).toNat = (BitVec.ofNat 32 (x.toBitVec.toNat % 256)).toNat
  rw [BitVec.toNat_and, BitVec.toNat_ofNat, BitVec.toNat_ofNat]
  have h1 : x.toBitVec.toNat &&& 255 = x.toBitVec.toNat % 256 := Nat.and_two_pow_sub_one_eq_mod x.toBitVec.toNat 8
  rw [show 255 % 2 ^ 32 = 255 from rfl, h1]
  have h2 := Nat.mod_lt x.toBitVec.toNat (show 0 < 256 by decide)
  omega
theorem b8_nI (m : Nat) : b8 (nI m) = m % 256 := by
  show (BitVec.ofNat 32 m).toNat % 256 = m % 256
  rw [BitVec.toNat_ofNat]
  omega
def gB0 (l : List Nat) (j : Nat) : Nat := l.getD j 0
theorem gB0_lt {l : List Nat} {v j : Nat} (h : j < l.length) : gB0 (l ++ [v]) j = gB0 l j := by
  simp [gB0, List.getElem?_append_left h]
theorem gB0_at (l : List Nat) (v : Nat) : gB0 (l ++ [v]) l.length = v := by
  simp [gB0]
theorem gB0_ge {l : List Nat} {j : Nat} (h : l.length ≤ j) : gB0 l j = 0 := by
  simp [gB0, h]
/-- a page of N bytes, register r, array a, holds l -/
def Pg (r a N : Nat) (I : Nat → Int32) (A : Nat → Nat → Int32) (l : List Nat) : Prop := I r = nI l.length ∧ ∀ j, j < N → A a j = nI (gB0 l j)
theorem Pg_fr {r a N : Nat} {SI SA : List Nat} {I I' : Nat → Int32} {A A' : Nat → Nat → Int32} {l : List Nat} (h : Pg r a N I A l) (f : Fr SI I I') (g : Fr SA A A') (hr : r ∉ SI) (ha : a ∉ SA) : Pg r a N I' A' l := ⟨(f r hr).trans h.1, fun j hj => by rw [g a ha]; exact h.2 j hj⟩
theorem Pg_put {r a N : Nat} {I I' : Nat → Int32} {A A' : Nat → Nat → Int32} {l : List Nat} {v : Nat} (h : Pg r a N I A l) (hI : I' r = nI (l.length + 1)) (hA : A' a = if l.length < N then upd (A a) l.length (nI v) else A a) : Pg r a N I' A' (l ++ [v]) := by
  refine ⟨by rw [hI]; simp, fun j hj => ?_⟩
  rw [hA]
  by_cases hl : l.length < N
  · rw [if_pos hl]
    by_cases hjl : j = l.length
    · subst hjl
      rw [pk_us, gB0_at]
    · rw [pk_un hjl, h.2 j hj]
      rcases Nat.lt_or_gt_of_ne hjl with q | q
      · rw [gB0_lt q]
      · rw [gB0_ge (by omega), gB0_ge (by simp; omega)]
  · rw [if_neg hl, h.2 j hj, gB0_lt (by omega)]
section S43
variable {n u : Nat} {I : Nat → Int32} {A : Nat → Nat → Int32} {J : Int64} {B : Nat → Int64} {mk sn L : Nat} {xs : Nat → Int32} {X : Nat → mC} {D : Nat → Nat} 
set_option maxRecDepth 100000 in
set_option maxHeartbeats 4000000 in
theorem l_9_33 {v : Int32} {Q : mO × mHp → Prop} : ∀ (z j : Nat) {A : Nat → Nat → Int32}, (j + z = 32) → (∀ i, i < j → A 1 i = v) → (∀ A', Fr [1] A A' → (∀ i, i < 32 → A' 1 i = v) → Q (.inl none, hS n u I A' J B mk sn L xs X)) → mq 9 5 [some (.ref 33), some (.int v), some (.int (nI j)), some (.int (nI 32))] [] (hS n u I A J B mk sn L xs X) Q := by
  intro z
  induction z with
  | zero =>
    intro j A hz hd kk
    refine x_il1 (pc := 5) rfl rfl ?_
    refine x_il1 (pc := 6) rfl rfl ?_
    refine x_cmpN_ge (pc := 7) (t := 20) rfl rfl (by omega) (by decide) (fun c7 => ?_) (fun c7 => ?_)
    · refine x_ret (pc := 20) rfl rfl ?_
      exact kk A (Fr_refl _ _) (fun i hi => hd i (by omega))
    · omega
  | succ z ih =>
    intro j A hz hd kk
    refine x_il1 (pc := 5) rfl rfl ?_
    refine x_il1 (pc := 6) rfl rfl ?_
    refine x_cmpN_ge (pc := 7) (t := 20) rfl rfl (by omega) (by decide) (fun c7 => ?_) (fun c7 => ?_)
    · omega
    · refine x_al1 (pc := 10) rfl rfl ?_
      refine x_il1 (pc := 11) rfl rfl ?_
      refine x_il1 (pc := 12) rfl rfl ?_
      refine as_33 (pc := 13) (q := j) rfl rfl (by omega) ?_
      refine x_iincN (pc := 14) (c := 1) (ml' := [some (.ref 33), some (.int v), some (.int (nI (j + 1))), some (.int (nI 32))]) rfl rfl rfl rfl ?_
      refine x_step (pc := 17) (pc' := 5) rfl rfl rfl rfl ?_
      have hd2 : ∀ i, i < j + 1 → upd (A 1) j v i = v := by
        intro i hi
        by_cases hij : i = j
        · rw [hij]; exact pk_us
        · rw [pk_un hij]; exact hd i (by omega)
      exact ih (j + 1) (A := va_up A 1 (upd (A 1) j v)) (by omega) hd2 (fun A2 g2 h2 => kk A2 (Fr_cons (Fr_u (Fr_refl _ _) (by decide)) g2 (by decide)) h2)
set_option maxRecDepth 100000 in
set_option maxHeartbeats 4000000 in
theorem k_9_33 {v : Int32} {Q : mO × mHp → Prop} (kk : ∀ A', Fr [1] A A' → (∀ i, i < 32 → A' 1 i = v) → Q (.inl none, hS n u I A' J B mk sn L xs X)) : mq 9 0 [some (.ref 33), some (.int v), none, none] [] (hS n u I A J B mk sn L xs X) Q := by
  refine x_const (pc := 0) (pc' := 1) (.int (nI 0)) rfl rfl rfl rfl ?_
  refine x_is1 (pc := 1) (ml' := [some (.ref 33), some (.int v), some (.int (nI 0)), none]) rfl rfl ?_
  refine x_al1 (pc := 2) rfl rfl ?_
  refine ln_33 (pc := 3) rfl ?_
  refine x_is1 (pc := 4) (ml' := [some (.ref 33), some (.int v), some (.int (nI 0)), some (.int (nI 32))]) rfl rfl ?_
  exact l_9_33 32 0 rfl (fun i hi => absurd hi (Nat.not_lt_zero i)) kk
set_option maxRecDepth 100000 in
set_option maxHeartbeats 4000000 in
theorem l_9_50 {v : Int32} {Q : mO × mHp → Prop} : ∀ (z j : Nat) {A : Nat → Nat → Int32}, (j + z = 128) → (∀ i, i < j → A 3 i = v) → (∀ A', Fr [3] A A' → (∀ i, i < 128 → A' 3 i = v) → Q (.inl none, hS n u I A' J B mk sn L xs X)) → mq 9 5 [some (.ref 50), some (.int v), some (.int (nI j)), some (.int (nI 128))] [] (hS n u I A J B mk sn L xs X) Q := by
  intro z
  induction z with
  | zero =>
    intro j A hz hd kk
    refine x_il1 (pc := 5) rfl rfl ?_
    refine x_il1 (pc := 6) rfl rfl ?_
    refine x_cmpN_ge (pc := 7) (t := 20) rfl rfl (by omega) (by decide) (fun c7 => ?_) (fun c7 => ?_)
    · refine x_ret (pc := 20) rfl rfl ?_
      exact kk A (Fr_refl _ _) (fun i hi => hd i (by omega))
    · omega
  | succ z ih =>
    intro j A hz hd kk
    refine x_il1 (pc := 5) rfl rfl ?_
    refine x_il1 (pc := 6) rfl rfl ?_
    refine x_cmpN_ge (pc := 7) (t := 20) rfl rfl (by omega) (by decide) (fun c7 => ?_) (fun c7 => ?_)
    · omega
    · refine x_al1 (pc := 10) rfl rfl ?_
      refine x_il1 (pc := 11) rfl rfl ?_
      refine x_il1 (pc := 12) rfl rfl ?_
      refine as_50 (pc := 13) (q := j) rfl rfl (by omega) ?_
      refine x_iincN (pc := 14) (c := 1) (ml' := [some (.ref 50), some (.int v), some (.int (nI (j + 1))), some (.int (nI 128))]) rfl rfl rfl rfl ?_
      refine x_step (pc := 17) (pc' := 5) rfl rfl rfl rfl ?_
      have hd2 : ∀ i, i < j + 1 → upd (A 3) j v i = v := by
        intro i hi
        by_cases hij : i = j
        · rw [hij]; exact pk_us
        · rw [pk_un hij]; exact hd i (by omega)
      exact ih (j + 1) (A := va_up A 3 (upd (A 3) j v)) (by omega) hd2 (fun A2 g2 h2 => kk A2 (Fr_cons (Fr_u (Fr_refl _ _) (by decide)) g2 (by decide)) h2)
set_option maxRecDepth 100000 in
set_option maxHeartbeats 4000000 in
theorem k_9_50 {v : Int32} {Q : mO × mHp → Prop} (kk : ∀ A', Fr [3] A A' → (∀ i, i < 128 → A' 3 i = v) → Q (.inl none, hS n u I A' J B mk sn L xs X)) : mq 9 0 [some (.ref 50), some (.int v), none, none] [] (hS n u I A J B mk sn L xs X) Q := by
  refine x_const (pc := 0) (pc' := 1) (.int (nI 0)) rfl rfl rfl rfl ?_
  refine x_is1 (pc := 1) (ml' := [some (.ref 50), some (.int v), some (.int (nI 0)), none]) rfl rfl ?_
  refine x_al1 (pc := 2) rfl rfl ?_
  refine ln_50 (pc := 3) rfl ?_
  refine x_is1 (pc := 4) (ml' := [some (.ref 50), some (.int v), some (.int (nI 0)), some (.int (nI 128))]) rfl rfl ?_
  exact l_9_50 128 0 rfl (fun i hi => absurd hi (Nat.not_lt_zero i)) kk
set_option maxRecDepth 100000 in
set_option maxHeartbeats 4000000 in
theorem l_9_52 {v : Int32} {Q : mO × mHp → Prop} : ∀ (z j : Nat) {A : Nat → Nat → Int32}, (j + z = 32) → (∀ i, i < j → A 4 i = v) → (∀ A', Fr [4] A A' → (∀ i, i < 32 → A' 4 i = v) → Q (.inl none, hS n u I A' J B mk sn L xs X)) → mq 9 5 [some (.ref 52), some (.int v), some (.int (nI j)), some (.int (nI 32))] [] (hS n u I A J B mk sn L xs X) Q := by
  intro z
  induction z with
  | zero =>
    intro j A hz hd kk
    refine x_il1 (pc := 5) rfl rfl ?_
    refine x_il1 (pc := 6) rfl rfl ?_
    refine x_cmpN_ge (pc := 7) (t := 20) rfl rfl (by omega) (by decide) (fun c7 => ?_) (fun c7 => ?_)
    · refine x_ret (pc := 20) rfl rfl ?_
      exact kk A (Fr_refl _ _) (fun i hi => hd i (by omega))
    · omega
  | succ z ih =>
    intro j A hz hd kk
    refine x_il1 (pc := 5) rfl rfl ?_
    refine x_il1 (pc := 6) rfl rfl ?_
    refine x_cmpN_ge (pc := 7) (t := 20) rfl rfl (by omega) (by decide) (fun c7 => ?_) (fun c7 => ?_)
    · omega
    · refine x_al1 (pc := 10) rfl rfl ?_
      refine x_il1 (pc := 11) rfl rfl ?_
      refine x_il1 (pc := 12) rfl rfl ?_
      refine as_52 (pc := 13) (q := j) rfl rfl (by omega) ?_
      refine x_iincN (pc := 14) (c := 1) (ml' := [some (.ref 52), some (.int v), some (.int (nI (j + 1))), some (.int (nI 32))]) rfl rfl rfl rfl ?_
      refine x_step (pc := 17) (pc' := 5) rfl rfl rfl rfl ?_
      have hd2 : ∀ i, i < j + 1 → upd (A 4) j v i = v := by
        intro i hi
        by_cases hij : i = j
        · rw [hij]; exact pk_us
        · rw [pk_un hij]; exact hd i (by omega)
      exact ih (j + 1) (A := va_up A 4 (upd (A 4) j v)) (by omega) hd2 (fun A2 g2 h2 => kk A2 (Fr_cons (Fr_u (Fr_refl _ _) (by decide)) g2 (by decide)) h2)
set_option maxRecDepth 100000 in
set_option maxHeartbeats 4000000 in
theorem k_9_52 {v : Int32} {Q : mO × mHp → Prop} (kk : ∀ A', Fr [4] A A' → (∀ i, i < 32 → A' 4 i = v) → Q (.inl none, hS n u I A' J B mk sn L xs X)) : mq 9 0 [some (.ref 52), some (.int v), none, none] [] (hS n u I A J B mk sn L xs X) Q := by
  refine x_const (pc := 0) (pc' := 1) (.int (nI 0)) rfl rfl rfl rfl ?_
  refine x_is1 (pc := 1) (ml' := [some (.ref 52), some (.int v), some (.int (nI 0)), none]) rfl rfl ?_
  refine x_al1 (pc := 2) rfl rfl ?_
  refine ln_52 (pc := 3) rfl ?_
  refine x_is1 (pc := 4) (ml' := [some (.ref 52), some (.int v), some (.int (nI 0)), some (.int (nI 32))]) rfl rfl ?_
  exact l_9_52 32 0 rfl (fun i hi => absurd hi (Nat.not_lt_zero i)) kk
set_option maxRecDepth 100000 in
set_option maxHeartbeats 4000000 in
theorem l_9_16 {v : Int32} {Q : mO × mHp → Prop} : ∀ (z j : Nat) {A : Nat → Nat → Int32}, (j + z = 8) → (∀ i, i < j → A 32 i = v) → (∀ A', Fr [32] A A' → (∀ i, i < 8 → A' 32 i = v) → Q (.inl none, hS n u I A' J B mk sn L xs X)) → mq 9 5 [some (.ref 16), some (.int v), some (.int (nI j)), some (.int (nI 8))] [] (hS n u I A J B mk sn L xs X) Q := by
  intro z
  induction z with
  | zero =>
    intro j A hz hd kk
    refine x_il1 (pc := 5) rfl rfl ?_
    refine x_il1 (pc := 6) rfl rfl ?_
    refine x_cmpN_ge (pc := 7) (t := 20) rfl rfl (by omega) (by decide) (fun c7 => ?_) (fun c7 => ?_)
    · refine x_ret (pc := 20) rfl rfl ?_
      exact kk A (Fr_refl _ _) (fun i hi => hd i (by omega))
    · omega
  | succ z ih =>
    intro j A hz hd kk
    refine x_il1 (pc := 5) rfl rfl ?_
    refine x_il1 (pc := 6) rfl rfl ?_
    refine x_cmpN_ge (pc := 7) (t := 20) rfl rfl (by omega) (by decide) (fun c7 => ?_) (fun c7 => ?_)
    · omega
    · refine x_al1 (pc := 10) rfl rfl ?_
      refine x_il1 (pc := 11) rfl rfl ?_
      refine x_il1 (pc := 12) rfl rfl ?_
      refine as_16 (pc := 13) (q := j) rfl rfl (by omega) ?_
      refine x_iincN (pc := 14) (c := 1) (ml' := [some (.ref 16), some (.int v), some (.int (nI (j + 1))), some (.int (nI 8))]) rfl rfl rfl rfl ?_
      refine x_step (pc := 17) (pc' := 5) rfl rfl rfl rfl ?_
      have hd2 : ∀ i, i < j + 1 → upd (A 32) j v i = v := by
        intro i hi
        by_cases hij : i = j
        · rw [hij]; exact pk_us
        · rw [pk_un hij]; exact hd i (by omega)
      exact ih (j + 1) (A := va_up A 32 (upd (A 32) j v)) (by omega) hd2 (fun A2 g2 h2 => kk A2 (Fr_cons (Fr_u (Fr_refl _ _) (by decide)) g2 (by decide)) h2)
set_option maxRecDepth 100000 in
set_option maxHeartbeats 4000000 in
theorem k_9_16 {v : Int32} {Q : mO × mHp → Prop} (kk : ∀ A', Fr [32] A A' → (∀ i, i < 8 → A' 32 i = v) → Q (.inl none, hS n u I A' J B mk sn L xs X)) : mq 9 0 [some (.ref 16), some (.int v), none, none] [] (hS n u I A J B mk sn L xs X) Q := by
  refine x_const (pc := 0) (pc' := 1) (.int (nI 0)) rfl rfl rfl rfl ?_
  refine x_is1 (pc := 1) (ml' := [some (.ref 16), some (.int v), some (.int (nI 0)), none]) rfl rfl ?_
  refine x_al1 (pc := 2) rfl rfl ?_
  refine ln_16 (pc := 3) rfl ?_
  refine x_is1 (pc := 4) (ml' := [some (.ref 16), some (.int v), some (.int (nI 0)), some (.int (nI 8))]) rfl rfl ?_
  exact l_9_16 8 0 rfl (fun i hi => absurd hi (Nat.not_lt_zero i)) kk
set_option maxRecDepth 100000 in
set_option maxHeartbeats 4000000 in
theorem l_9_21 {v : Int32} {Q : mO × mHp → Prop} : ∀ (z j : Nat) {A : Nat → Nat → Int32}, (j + z = 8) → (∀ i, i < j → A 36 i = v) → (∀ A', Fr [36] A A' → (∀ i, i < 8 → A' 36 i = v) → Q (.inl none, hS n u I A' J B mk sn L xs X)) → mq 9 5 [some (.ref 21), some (.int v), some (.int (nI j)), some (.int (nI 8))] [] (hS n u I A J B mk sn L xs X) Q := by
  intro z
  induction z with
  | zero =>
    intro j A hz hd kk
    refine x_il1 (pc := 5) rfl rfl ?_
    refine x_il1 (pc := 6) rfl rfl ?_
    refine x_cmpN_ge (pc := 7) (t := 20) rfl rfl (by omega) (by decide) (fun c7 => ?_) (fun c7 => ?_)
    · refine x_ret (pc := 20) rfl rfl ?_
      exact kk A (Fr_refl _ _) (fun i hi => hd i (by omega))
    · omega
  | succ z ih =>
    intro j A hz hd kk
    refine x_il1 (pc := 5) rfl rfl ?_
    refine x_il1 (pc := 6) rfl rfl ?_
    refine x_cmpN_ge (pc := 7) (t := 20) rfl rfl (by omega) (by decide) (fun c7 => ?_) (fun c7 => ?_)
    · omega
    · refine x_al1 (pc := 10) rfl rfl ?_
      refine x_il1 (pc := 11) rfl rfl ?_
      refine x_il1 (pc := 12) rfl rfl ?_
      refine as_21 (pc := 13) (q := j) rfl rfl (by omega) ?_
      refine x_iincN (pc := 14) (c := 1) (ml' := [some (.ref 21), some (.int v), some (.int (nI (j + 1))), some (.int (nI 8))]) rfl rfl rfl rfl ?_
      refine x_step (pc := 17) (pc' := 5) rfl rfl rfl rfl ?_
      have hd2 : ∀ i, i < j + 1 → upd (A 36) j v i = v := by
        intro i hi
        by_cases hij : i = j
        · rw [hij]; exact pk_us
        · rw [pk_un hij]; exact hd i (by omega)
      exact ih (j + 1) (A := va_up A 36 (upd (A 36) j v)) (by omega) hd2 (fun A2 g2 h2 => kk A2 (Fr_cons (Fr_u (Fr_refl _ _) (by decide)) g2 (by decide)) h2)
set_option maxRecDepth 100000 in
set_option maxHeartbeats 4000000 in
theorem k_9_21 {v : Int32} {Q : mO × mHp → Prop} (kk : ∀ A', Fr [36] A A' → (∀ i, i < 8 → A' 36 i = v) → Q (.inl none, hS n u I A' J B mk sn L xs X)) : mq 9 0 [some (.ref 21), some (.int v), none, none] [] (hS n u I A J B mk sn L xs X) Q := by
  refine x_const (pc := 0) (pc' := 1) (.int (nI 0)) rfl rfl rfl rfl ?_
  refine x_is1 (pc := 1) (ml' := [some (.ref 21), some (.int v), some (.int (nI 0)), none]) rfl rfl ?_
  refine x_al1 (pc := 2) rfl rfl ?_
  refine ln_21 (pc := 3) rfl ?_
  refine x_is1 (pc := 4) (ml' := [some (.ref 21), some (.int v), some (.int (nI 0)), some (.int (nI 8))]) rfl rfl ?_
  exact l_9_21 8 0 rfl (fun i hi => absurd hi (Nat.not_lt_zero i)) kk
set_option maxRecDepth 100000 in
set_option maxHeartbeats 4000000 in
theorem l_9_26 {v : Int32} {Q : mO × mHp → Prop} : ∀ (z j : Nat) {A : Nat → Nat → Int32}, (j + z = 8) → (∀ i, i < j → A 40 i = v) → (∀ A', Fr [40] A A' → (∀ i, i < 8 → A' 40 i = v) → Q (.inl none, hS n u I A' J B mk sn L xs X)) → mq 9 5 [some (.ref 26), some (.int v), some (.int (nI j)), some (.int (nI 8))] [] (hS n u I A J B mk sn L xs X) Q := by
  intro z
  induction z with
  | zero =>
    intro j A hz hd kk
    refine x_il1 (pc := 5) rfl rfl ?_
    refine x_il1 (pc := 6) rfl rfl ?_
    refine x_cmpN_ge (pc := 7) (t := 20) rfl rfl (by omega) (by decide) (fun c7 => ?_) (fun c7 => ?_)
    · refine x_ret (pc := 20) rfl rfl ?_
      exact kk A (Fr_refl _ _) (fun i hi => hd i (by omega))
    · omega
  | succ z ih =>
    intro j A hz hd kk
    refine x_il1 (pc := 5) rfl rfl ?_
    refine x_il1 (pc := 6) rfl rfl ?_
    refine x_cmpN_ge (pc := 7) (t := 20) rfl rfl (by omega) (by decide) (fun c7 => ?_) (fun c7 => ?_)
    · omega
    · refine x_al1 (pc := 10) rfl rfl ?_
      refine x_il1 (pc := 11) rfl rfl ?_
      refine x_il1 (pc := 12) rfl rfl ?_
      refine as_26 (pc := 13) (q := j) rfl rfl (by omega) ?_
      refine x_iincN (pc := 14) (c := 1) (ml' := [some (.ref 26), some (.int v), some (.int (nI (j + 1))), some (.int (nI 8))]) rfl rfl rfl rfl ?_
      refine x_step (pc := 17) (pc' := 5) rfl rfl rfl rfl ?_
      have hd2 : ∀ i, i < j + 1 → upd (A 40) j v i = v := by
        intro i hi
        by_cases hij : i = j
        · rw [hij]; exact pk_us
        · rw [pk_un hij]; exact hd i (by omega)
      exact ih (j + 1) (A := va_up A 40 (upd (A 40) j v)) (by omega) hd2 (fun A2 g2 h2 => kk A2 (Fr_cons (Fr_u (Fr_refl _ _) (by decide)) g2 (by decide)) h2)
set_option maxRecDepth 100000 in
set_option maxHeartbeats 4000000 in
theorem k_9_26 {v : Int32} {Q : mO × mHp → Prop} (kk : ∀ A', Fr [40] A A' → (∀ i, i < 8 → A' 40 i = v) → Q (.inl none, hS n u I A' J B mk sn L xs X)) : mq 9 0 [some (.ref 26), some (.int v), none, none] [] (hS n u I A J B mk sn L xs X) Q := by
  refine x_const (pc := 0) (pc' := 1) (.int (nI 0)) rfl rfl rfl rfl ?_
  refine x_is1 (pc := 1) (ml' := [some (.ref 26), some (.int v), some (.int (nI 0)), none]) rfl rfl ?_
  refine x_al1 (pc := 2) rfl rfl ?_
  refine ln_26 (pc := 3) rfl ?_
  refine x_is1 (pc := 4) (ml' := [some (.ref 26), some (.int v), some (.int (nI 0)), some (.int (nI 8))]) rfl rfl ?_
  exact l_9_26 8 0 rfl (fun i hi => absurd hi (Nat.not_lt_zero i)) kk
set_option maxRecDepth 100000 in
set_option maxHeartbeats 4000000 in
theorem l_9_31 {v : Int32} {Q : mO × mHp → Prop} : ∀ (z j : Nat) {A : Nat → Nat → Int32}, (j + z = 8) → (∀ i, i < j → A 44 i = v) → (∀ A', Fr [44] A A' → (∀ i, i < 8 → A' 44 i = v) → Q (.inl none, hS n u I A' J B mk sn L xs X)) → mq 9 5 [some (.ref 31), some (.int v), some (.int (nI j)), some (.int (nI 8))] [] (hS n u I A J B mk sn L xs X) Q := by
  intro z
  induction z with
  | zero =>
    intro j A hz hd kk
    refine x_il1 (pc := 5) rfl rfl ?_
    refine x_il1 (pc := 6) rfl rfl ?_
    refine x_cmpN_ge (pc := 7) (t := 20) rfl rfl (by omega) (by decide) (fun c7 => ?_) (fun c7 => ?_)
    · refine x_ret (pc := 20) rfl rfl ?_
      exact kk A (Fr_refl _ _) (fun i hi => hd i (by omega))
    · omega
  | succ z ih =>
    intro j A hz hd kk
    refine x_il1 (pc := 5) rfl rfl ?_
    refine x_il1 (pc := 6) rfl rfl ?_
    refine x_cmpN_ge (pc := 7) (t := 20) rfl rfl (by omega) (by decide) (fun c7 => ?_) (fun c7 => ?_)
    · omega
    · refine x_al1 (pc := 10) rfl rfl ?_
      refine x_il1 (pc := 11) rfl rfl ?_
      refine x_il1 (pc := 12) rfl rfl ?_
      refine as_31 (pc := 13) (q := j) rfl rfl (by omega) ?_
      refine x_iincN (pc := 14) (c := 1) (ml' := [some (.ref 31), some (.int v), some (.int (nI (j + 1))), some (.int (nI 8))]) rfl rfl rfl rfl ?_
      refine x_step (pc := 17) (pc' := 5) rfl rfl rfl rfl ?_
      have hd2 : ∀ i, i < j + 1 → upd (A 44) j v i = v := by
        intro i hi
        by_cases hij : i = j
        · rw [hij]; exact pk_us
        · rw [pk_un hij]; exact hd i (by omega)
      exact ih (j + 1) (A := va_up A 44 (upd (A 44) j v)) (by omega) hd2 (fun A2 g2 h2 => kk A2 (Fr_cons (Fr_u (Fr_refl _ _) (by decide)) g2 (by decide)) h2)
set_option maxRecDepth 100000 in
set_option maxHeartbeats 4000000 in
theorem k_9_31 {v : Int32} {Q : mO × mHp → Prop} (kk : ∀ A', Fr [44] A A' → (∀ i, i < 8 → A' 44 i = v) → Q (.inl none, hS n u I A' J B mk sn L xs X)) : mq 9 0 [some (.ref 31), some (.int v), none, none] [] (hS n u I A J B mk sn L xs X) Q := by
  refine x_const (pc := 0) (pc' := 1) (.int (nI 0)) rfl rfl rfl rfl ?_
  refine x_is1 (pc := 1) (ml' := [some (.ref 31), some (.int v), some (.int (nI 0)), none]) rfl rfl ?_
  refine x_al1 (pc := 2) rfl rfl ?_
  refine ln_31 (pc := 3) rfl ?_
  refine x_is1 (pc := 4) (ml' := [some (.ref 31), some (.int v), some (.int (nI 0)), some (.int (nI 8))]) rfl rfl ?_
  exact l_9_31 8 0 rfl (fun i hi => absurd hi (Nat.not_lt_zero i)) kk
set_option maxRecDepth 100000 in
set_option maxHeartbeats 4000000 in
theorem k_25_49  {Q : mO × mHp → Prop} (kk : ∀ I' A', Fr [14] I I' → Fr [3] A A' → Pg 14 3 128 I' A' [] → Q (.inl none, hS n u I' A' J B mk sn L xs X)) : mq 25 0 [some (.ref 49)] [] (hS n u I A J B mk sn L xs X) Q := by
  refine x_al1 (pc := 0) rfl rfl ?_
  refine g_49_0 (pc := 1) rfl rfl ?_
  refine x_const (pc := 4) (pc' := 5) (.int (nI 0)) rfl rfl rfl rfl ?_
  refine x_k (pc := 5) rfl rfl rfl ⟨Nat.le_of_ble_eq_true rfl, Nat.le_of_ble_eq_true rfl, Nat.le_of_ble_eq_true rfl⟩ rfl (k_9_50 (I := I) (A := A) (v := nI 0) (fun A1 g1 h1 => ?_))
  show mq 25 8 [some (.ref 49)] [] (hS n u I A1 J B mk sn L xs X) _
  refine x_al1 (pc := 8) rfl rfl ?_
  refine x_const (pc := 9) (pc' := 10) (.int (nI 0)) rfl rfl rfl rfl ?_
  refine p_49_1 (pc := 10) rfl rfl ?_
  refine x_ret (pc := 13) rfl rfl ?_
  exact kk _ _ (Fr_u (Fr_refl _ _) (by decide)) (Fr_cons (Fr_refl _ _) g1 (by decide)) ⟨rfl, h1⟩
set_option maxRecDepth 100000 in
set_option maxHeartbeats 4000000 in
theorem k_27_49 {x : Int32} {l : List Nat} (hP : Pg 14 3 128 I A l) (hl : l.length < 2000) {Q : mO × mHp → Prop} (kk : ∀ I' A', Fr [14] I I' → Fr [3] A A' → Pg 14 3 128 I' A' (l ++ [b8 x]) → Q (.inl none, hS n u I' A' J B mk sn L xs X)) : mq 27 0 [some (.ref 49), some (.int x)] [] (hS n u I A J B mk sn L xs X) Q := by
  refine x_al1 (pc := 0) rfl rfl ?_
  refine g_49_1 (pc := 1) (v := nI l.length) rfl rfl hP.1 ?_
  refine x_al1 (pc := 4) rfl rfl ?_
  refine g_49_0 (pc := 5) rfl rfl ?_
  refine ln_50 (pc := 8) rfl ?_
  refine x_cmpN_ge (pc := 9) (t := 26) rfl rfl (by omega) (by omega) (fun c9 => ?_) (fun c9 => ?_)
  · refine x_al1 (pc := 26) rfl rfl ?_
    refine x_step (pc := 27) (pc' := 28) (st' := [.ref 49, .ref 49]) rfl rfl rfl rfl ?_
    refine g_49_1 (pc := 28) (v := nI l.length) rfl rfl hP.1 ?_
    refine x_const (pc := 31) (pc' := 32) (.int (nI 1)) rfl rfl rfl rfl ?_
    refine x_iaddN (pc := 32) (c := l.length + 1) rfl rfl ?_
    refine p_49_1 (pc := 33) rfl rfl ?_
    refine x_ret (pc := 36) rfl rfl ?_
    exact kk _ _ (Fr_u (Fr_refl _ _) (by decide)) (Fr_refl _ _) (Pg_put hP rfl (if_neg (by omega)).symm)
  · refine x_al1 (pc := 12) rfl rfl ?_
    refine g_49_0 (pc := 13) rfl rfl ?_
    refine x_al1 (pc := 16) rfl rfl ?_
    refine g_49_1 (pc := 17) (v := nI l.length) rfl rfl hP.1 ?_
    refine x_il1 (pc := 20) rfl rfl ?_
    refine x_const (pc := 21) (pc' := 24) (.int (nI 255)) rfl rfl rfl rfl ?_
    refine x_iandV (pc := 24) (v := nI (b8 x)) rfl (and255 x) ?_
    refine as_50 (pc := 25) (q := l.length) rfl rfl (by omega) ?_
    refine x_al1 (pc := 26) rfl rfl ?_
    refine x_step (pc := 27) (pc' := 28) (st' := [.ref 49, .ref 49]) rfl rfl rfl rfl ?_
    refine g_49_1 (pc := 28) (v := nI l.length) rfl rfl hP.1 ?_
    refine x_const (pc := 31) (pc' := 32) (.int (nI 1)) rfl rfl rfl rfl ?_
    refine x_iaddN (pc := 32) (c := l.length + 1) rfl rfl ?_
    refine p_49_1 (pc := 33) rfl rfl ?_
    refine x_ret (pc := 36) rfl rfl ?_
    exact kk _ _ (Fr_u (Fr_refl _ _) (by decide)) (Fr_u (Fr_refl _ _) (by decide)) (Pg_put hP rfl (if_pos (by omega)).symm)
set_option maxRecDepth 100000 in
set_option maxHeartbeats 4000000 in
theorem k_32_49 {l : List Nat} {j : Nat} (hP : Pg 14 3 128 I A l) (hj : j < 128) {Q : mO × mHp → Prop} (kk : Q (.inl (some (.int (nI (gB0 l j)))), hS n u I A J B mk sn L xs X)) : mq 32 0 [some (.ref 49), some (.int (nI j))] [] (hS n u I A J B mk sn L xs X) Q := by
  refine x_il1 (pc := 0) rfl rfl ?_
  refine x_ifN_lt (pc := 1) (t := 22) rfl rfl (by omega) ?_
  refine x_il1 (pc := 4) rfl rfl ?_
  refine x_al1 (pc := 5) rfl rfl ?_
  refine g_49_0 (pc := 6) rfl rfl ?_
  refine ln_50 (pc := 9) rfl ?_
  refine x_cmpN_ge (pc := 10) (t := 22) rfl rfl (by omega) (by omega) (fun c10 => ?_) (fun c10 => ?_)
  · omega
  · refine x_al1 (pc := 13) rfl rfl ?_
    refine g_49_0 (pc := 14) rfl rfl ?_
    refine x_il1 (pc := 17) rfl rfl ?_
    refine al_50 (pc := 18) (q := j) (v := nI (gB0 l j)) rfl rfl hj (hP.2 j hj) ?_
    refine x_step (pc := 19) (pc' := 23) rfl rfl rfl rfl ?_
    refine x_ret (pc := 23) rfl rfl ?_
    exact kk
set_option maxRecDepth 100000 in
set_option maxHeartbeats 4000000 in
theorem k_25_51  {Q : mO × mHp → Prop} (kk : ∀ I' A', Fr [15] I I' → Fr [4] A A' → Pg 15 4 32 I' A' [] → Q (.inl none, hS n u I' A' J B mk sn L xs X)) : mq 25 0 [some (.ref 51)] [] (hS n u I A J B mk sn L xs X) Q := by
  refine x_al1 (pc := 0) rfl rfl ?_
  refine g_51_0 (pc := 1) rfl rfl ?_
  refine x_const (pc := 4) (pc' := 5) (.int (nI 0)) rfl rfl rfl rfl ?_
  refine x_k (pc := 5) rfl rfl rfl ⟨Nat.le_of_ble_eq_true rfl, Nat.le_of_ble_eq_true rfl, Nat.le_of_ble_eq_true rfl⟩ rfl (k_9_52 (I := I) (A := A) (v := nI 0) (fun A1 g1 h1 => ?_))
  show mq 25 8 [some (.ref 51)] [] (hS n u I A1 J B mk sn L xs X) _
  refine x_al1 (pc := 8) rfl rfl ?_
  refine x_const (pc := 9) (pc' := 10) (.int (nI 0)) rfl rfl rfl rfl ?_
  refine p_51_1 (pc := 10) rfl rfl ?_
  refine x_ret (pc := 13) rfl rfl ?_
  exact kk _ _ (Fr_u (Fr_refl _ _) (by decide)) (Fr_cons (Fr_refl _ _) g1 (by decide)) ⟨rfl, h1⟩
set_option maxRecDepth 100000 in
set_option maxHeartbeats 4000000 in
theorem k_27_51 {x : Int32} {l : List Nat} (hP : Pg 15 4 32 I A l) (hl : l.length < 2000) {Q : mO × mHp → Prop} (kk : ∀ I' A', Fr [15] I I' → Fr [4] A A' → Pg 15 4 32 I' A' (l ++ [b8 x]) → Q (.inl none, hS n u I' A' J B mk sn L xs X)) : mq 27 0 [some (.ref 51), some (.int x)] [] (hS n u I A J B mk sn L xs X) Q := by
  refine x_al1 (pc := 0) rfl rfl ?_
  refine g_51_1 (pc := 1) (v := nI l.length) rfl rfl hP.1 ?_
  refine x_al1 (pc := 4) rfl rfl ?_
  refine g_51_0 (pc := 5) rfl rfl ?_
  refine ln_52 (pc := 8) rfl ?_
  refine x_cmpN_ge (pc := 9) (t := 26) rfl rfl (by omega) (by omega) (fun c9 => ?_) (fun c9 => ?_)
  · refine x_al1 (pc := 26) rfl rfl ?_
    refine x_step (pc := 27) (pc' := 28) (st' := [.ref 51, .ref 51]) rfl rfl rfl rfl ?_
    refine g_51_1 (pc := 28) (v := nI l.length) rfl rfl hP.1 ?_
    refine x_const (pc := 31) (pc' := 32) (.int (nI 1)) rfl rfl rfl rfl ?_
    refine x_iaddN (pc := 32) (c := l.length + 1) rfl rfl ?_
    refine p_51_1 (pc := 33) rfl rfl ?_
    refine x_ret (pc := 36) rfl rfl ?_
    exact kk _ _ (Fr_u (Fr_refl _ _) (by decide)) (Fr_refl _ _) (Pg_put hP rfl (if_neg (by omega)).symm)
  · refine x_al1 (pc := 12) rfl rfl ?_
    refine g_51_0 (pc := 13) rfl rfl ?_
    refine x_al1 (pc := 16) rfl rfl ?_
    refine g_51_1 (pc := 17) (v := nI l.length) rfl rfl hP.1 ?_
    refine x_il1 (pc := 20) rfl rfl ?_
    refine x_const (pc := 21) (pc' := 24) (.int (nI 255)) rfl rfl rfl rfl ?_
    refine x_iandV (pc := 24) (v := nI (b8 x)) rfl (and255 x) ?_
    refine as_52 (pc := 25) (q := l.length) rfl rfl (by omega) ?_
    refine x_al1 (pc := 26) rfl rfl ?_
    refine x_step (pc := 27) (pc' := 28) (st' := [.ref 51, .ref 51]) rfl rfl rfl rfl ?_
    refine g_51_1 (pc := 28) (v := nI l.length) rfl rfl hP.1 ?_
    refine x_const (pc := 31) (pc' := 32) (.int (nI 1)) rfl rfl rfl rfl ?_
    refine x_iaddN (pc := 32) (c := l.length + 1) rfl rfl ?_
    refine p_51_1 (pc := 33) rfl rfl ?_
    refine x_ret (pc := 36) rfl rfl ?_
    exact kk _ _ (Fr_u (Fr_refl _ _) (by decide)) (Fr_u (Fr_refl _ _) (by decide)) (Pg_put hP rfl (if_pos (by omega)).symm)
set_option maxRecDepth 100000 in
set_option maxHeartbeats 4000000 in
theorem k_32_51 {l : List Nat} {j : Nat} (hP : Pg 15 4 32 I A l) (hj : j < 32) {Q : mO × mHp → Prop} (kk : Q (.inl (some (.int (nI (gB0 l j)))), hS n u I A J B mk sn L xs X)) : mq 32 0 [some (.ref 51), some (.int (nI j))] [] (hS n u I A J B mk sn L xs X) Q := by
  refine x_il1 (pc := 0) rfl rfl ?_
  refine x_ifN_lt (pc := 1) (t := 22) rfl rfl (by omega) ?_
  refine x_il1 (pc := 4) rfl rfl ?_
  refine x_al1 (pc := 5) rfl rfl ?_
  refine g_51_0 (pc := 6) rfl rfl ?_
  refine ln_52 (pc := 9) rfl ?_
  refine x_cmpN_ge (pc := 10) (t := 22) rfl rfl (by omega) (by omega) (fun c10 => ?_) (fun c10 => ?_)
  · omega
  · refine x_al1 (pc := 13) rfl rfl ?_
    refine g_51_0 (pc := 14) rfl rfl ?_
    refine x_il1 (pc := 17) rfl rfl ?_
    refine al_52 (pc := 18) (q := j) (v := nI (gB0 l j)) rfl rfl hj (hP.2 j hj) ?_
    refine x_step (pc := 19) (pc' := 23) rfl rfl rfl rfl ?_
    refine x_ret (pc := 23) rfl rfl ?_
    exact kk
end S43
