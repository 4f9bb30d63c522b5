/-! Pages: numbers. -/
/-- a number of up to five bytes, as it is written -/
def vE : Nat → Nat → List Nat
  | 0, n => [n % 256]
  | f + 1, n => if n / 128 = 0 then [n % 256] else (n % 128 + 128) :: vE f (n / 128)
theorem vE_len : ∀ f n, (vE f n).length ≤ f + 1
  | 0, _ => Nat.le_refl 1
  | f + 1, n => by
    unfold vE
    split
    · simp
    · have := vE_len f (n / 128)
      simp
      omega
theorem or128 (n : Nat) : nI (n % 128) ||| nI 128 = nI (n % 128 + 128) := by
  have h := nI_oradd (a := 1) (b := n % 128) (k := 7) (Nat.mod_lt _ (by decide))
  rw [Int32.or_comm, show nI 128 = nI (1 * 2 ^ 7) from rfl, h, Nat.add_comm]
section S44
variable {n u : Nat} {I : Nat → Int32} {A : Nat → Nat → Int32} {J : Int64} {B : Nat → Int64} {mk sn L : Nat} {xs : Nat → Int32} {X : Nat → mC} {D : Nat → Nat} 
set_option maxRecDepth 100000 in
set_option maxHeartbeats 4000000 in
theorem k_26_49_1 {m : Nat} {l : List Nat} (hP : Pg 14 3 128 I A l) (hl : l.length < 1900) (hm : m < 2 ^ 32) {Q : mO × mHp → Prop} (kk : ∀ I' A', Fr [14] I I' → Fr [3] A A' → Pg 14 3 128 I' A' (l ++ [m / 2 ^ 0 % 256]) → Q (.inl none, hS n u I' A' J B mk sn L xs X)) : mq 26 0 [some (.ref 49), some (.int (nI m)), some (.int (nI 1)), none] [] (hS n u I A J B mk sn L xs X) Q := by
  refine x_il1 (pc := 0) rfl rfl ?_
  refine x_const (pc := 1) (pc' := 2) (.int (nI 1)) rfl rfl rfl rfl ?_
  refine x_isubV (pc := 2) (v := nI 0) rfl (by decide) ?_
  refine x_is1 (pc := 3) (ml' := [some (.ref 49), some (.int (nI m)), some (.int (nI 1)), some (.int (nI 0))]) rfl rfl ?_
  refine x_il1 (pc := 4) rfl rfl ?_
  refine x_ifN_lt (pc := 5) (t := 24) rfl rfl (by omega) ?_
  refine x_al1 (pc := 8) rfl rfl ?_
  refine x_il1 (pc := 9) rfl rfl ?_
  refine x_const (pc := 10) (pc' := 12) (.int (nI 8)) rfl rfl rfl rfl ?_
  refine x_il1 (pc := 12) rfl rfl ?_
  refine x_imulN (pc := 13) (c := 0) rfl rfl ?_
  refine x_iushrV (pc := 14) (v := nI (m / 2 ^ 0)) rfl (pk_ushrN (by omega) _ 0 (by decide)) ?_
  refine x_k (pc := 15) rfl rfl rfl ⟨Nat.le_of_ble_eq_true rfl, Nat.le_of_ble_eq_true rfl, Nat.le_of_ble_eq_true rfl⟩ rfl (k_27_49 (I := I) (A := A) (x := nI (m / 2 ^ 0)) (l := l) hP (by first | omega | (simp; omega)) (fun I1 A1 f1 g1 h1 => ?_))
  show mq 26 18 [some (.ref 49), some (.int (nI m)), some (.int (nI 1)), some (.int (nI 0))] [] (hS n u I1 A1 J B mk sn L xs X) _
  refine x_iincV (pc := 18) (v := (-1)) (ml' := [some (.ref 49), some (.int (nI m)), some (.int (nI 1)), some (.int (-1))]) rfl rfl (by decide) rfl ?_
  refine x_step (pc := 21) (pc' := 4) rfl rfl rfl rfl ?_
  refine x_il1 (pc := 4) rfl rfl ?_
  refine x_if_lt (pc := 5) (t := 24) rfl rfl rfl (fun _ => ?_) (fun c => absurd (by decide) c)
  refine x_ret (pc := 24) rfl rfl ?_
  have ev : l ++ [b8 (nI (m / 2 ^ 0))] = l ++ [m / 2 ^ 0 % 256] := by
    simp only [b8_nI, List.append_assoc, List.cons_append, List.nil_append]
  rw [ev] at h1
  exact kk _ _ (Fr_cons (Fr_refl _ _) f1 (by decide)) (Fr_cons (Fr_refl _ _) g1 (by decide)) h1
set_option maxRecDepth 100000 in
set_option maxHeartbeats 4000000 in
theorem k_26_49_2 {m : Nat} {l : List Nat} (hP : Pg 14 3 128 I A l) (hl : l.length < 1900) (hm : m < 2 ^ 32) {Q : mO × mHp → Prop} (kk : ∀ I' A', Fr [14] I I' → Fr [3] A A' → Pg 14 3 128 I' A' (l ++ [m / 2 ^ 8 % 256, m / 2 ^ 0 % 256]) → Q (.inl none, hS n u I' A' J B mk sn L xs X)) : mq 26 0 [some (.ref 49), some (.int (nI m)), some (.int (nI 2)), none] [] (hS n u I A J B mk sn L xs X) Q := by
  refine x_il1 (pc := 0) rfl rfl ?_
  refine x_const (pc := 1) (pc' := 2) (.int (nI 1)) rfl rfl rfl rfl ?_
  refine x_isubV (pc := 2) (v := nI 1) rfl (by decide) ?_
  refine x_is1 (pc := 3) (ml' := [some (.ref 49), some (.int (nI m)), some (.int (nI 2)), some (.int (nI 1))]) rfl rfl ?_
  refine x_il1 (pc := 4) rfl rfl ?_
  refine x_ifN_lt (pc := 5) (t := 24) rfl rfl (by omega) ?_
  refine x_al1 (pc := 8) rfl rfl ?_
  refine x_il1 (pc := 9) rfl rfl ?_
  refine x_const (pc := 10) (pc' := 12) (.int (nI 8)) rfl rfl rfl rfl ?_
  refine x_il1 (pc := 12) rfl rfl ?_
  refine x_imulN (pc := 13) (c := 8) rfl rfl ?_
  refine x_iushrV (pc := 14) (v := nI (m / 2 ^ 8)) rfl (pk_ushrN (by omega) _ 8 (by decide)) ?_
  refine x_k (pc := 15) rfl rfl rfl ⟨Nat.le_of_ble_eq_true rfl, Nat.le_of_ble_eq_true rfl, Nat.le_of_ble_eq_true rfl⟩ rfl (k_27_49 (I := I) (A := A) (x := nI (m / 2 ^ 8)) (l := l) hP (by first | omega | (simp; omega)) (fun I1 A1 f1 g1 h1 => ?_))
  show mq 26 18 [some (.ref 49), some (.int (nI m)), some (.int (nI 2)), some (.int (nI 1))] [] (hS n u I1 A1 J B mk sn L xs X) _
  refine x_iincV (pc := 18) (v := nI 0) (ml' := [some (.ref 49), some (.int (nI m)), some (.int (nI 2)), some (.int (nI 0))]) rfl rfl (by decide) rfl ?_
  refine x_step (pc := 21) (pc' := 4) rfl rfl rfl rfl ?_
  refine x_il1 (pc := 4) rfl rfl ?_
  refine x_ifN_lt (pc := 5) (t := 24) rfl rfl (by omega) ?_
  refine x_al1 (pc := 8) rfl rfl ?_
  refine x_il1 (pc := 9) rfl rfl ?_
  refine x_const (pc := 10) (pc' := 12) (.int (nI 8)) rfl rfl rfl rfl ?_
  refine x_il1 (pc := 12) rfl rfl ?_
  refine x_imulN (pc := 13) (c := 0) rfl rfl ?_
  refine x_iushrV (pc := 14) (v := nI (m / 2 ^ 0)) rfl (pk_ushrN (by omega) _ 0 (by decide)) ?_
  refine x_k (pc := 15) rfl rfl rfl ⟨Nat.le_of_ble_eq_true rfl, Nat.le_of_ble_eq_true rfl, Nat.le_of_ble_eq_true rfl⟩ rfl (k_27_49 (I := I1) (A := A1) (x := nI (m / 2 ^ 0)) (l := l ++ [b8 (nI (m / 2 ^ 8))]) h1 (by first | omega | (simp; omega)) (fun I2 A2 f2 g2 h2 => ?_))
  show mq 26 18 [some (.ref 49), some (.int (nI m)), some (.int (nI 2)), some (.int (nI 0))] [] (hS n u I2 A2 J B mk sn L xs X) _
  refine x_iincV (pc := 18) (v := (-1)) (ml' := [some (.ref 49), some (.int (nI m)), some (.int (nI 2)), some (.int (-1))]) rfl rfl (by decide) rfl ?_
  refine x_step (pc := 21) (pc' := 4) rfl rfl rfl rfl ?_
  refine x_il1 (pc := 4) rfl rfl ?_
  refine x_if_lt (pc := 5) (t := 24) rfl rfl rfl (fun _ => ?_) (fun c => absurd (by decide) c)
  refine x_ret (pc := 24) rfl rfl ?_
  have ev : l ++ [b8 (nI (m / 2 ^ 8))] ++ [b8 (nI (m / 2 ^ 0))] = l ++ [m / 2 ^ 8 % 256, m / 2 ^ 0 % 256] := by
    simp only [b8_nI, List.append_assoc, List.cons_append, List.nil_append]
  rw [ev] at h2
  exact kk _ _ (Fr_cons (Fr_cons (Fr_refl _ _) f1 (by decide)) f2 (by decide)) (Fr_cons (Fr_cons (Fr_refl _ _) g1 (by decide)) g2 (by decide)) h2
set_option maxRecDepth 100000 in
set_option maxHeartbeats 4000000 in
theorem k_26_49_4 {m : Nat} {l : List Nat} (hP : Pg 14 3 128 I A l) (hl : l.length < 1900) (hm : m < 2 ^ 32) {Q : mO × mHp → Prop} (kk : ∀ I' A', Fr [14] I I' → Fr [3] A A' → Pg 14 3 128 I' A' (l ++ [m / 2 ^ 24 % 256, m / 2 ^ 16 % 256, m / 2 ^ 8 % 256, m / 2 ^ 0 % 256]) → Q (.inl none, hS n u I' A' J B mk sn L xs X)) : mq 26 0 [some (.ref 49), some (.int (nI m)), some (.int (nI 4)), none] [] (hS n u I A J B mk sn L xs X) Q := by
  refine x_il1 (pc := 0) rfl rfl ?_
  refine x_const (pc := 1) (pc' := 2) (.int (nI 1)) rfl rfl rfl rfl ?_
  refine x_isubV (pc := 2) (v := nI 3) rfl (by decide) ?_
  refine x_is1 (pc := 3) (ml' := [some (.ref 49), some (.int (nI m)), some (.int (nI 4)), some (.int (nI 3))]) rfl rfl ?_
  refine x_il1 (pc := 4) rfl rfl ?_
  refine x_ifN_lt (pc := 5) (t := 24) rfl rfl (by omega) ?_
  refine x_al1 (pc := 8) rfl rfl ?_
  refine x_il1 (pc := 9) rfl rfl ?_
  refine x_const (pc := 10) (pc' := 12) (.int (nI 8)) rfl rfl rfl rfl ?_
  refine x_il1 (pc := 12) rfl rfl ?_
  refine x_imulN (pc := 13) (c := 24) rfl rfl ?_
  refine x_iushrV (pc := 14) (v := nI (m / 2 ^ 24)) rfl (pk_ushrN (by omega) _ 24 (by decide)) ?_
  refine x_k (pc := 15) rfl rfl rfl ⟨Nat.le_of_ble_eq_true rfl, Nat.le_of_ble_eq_true rfl, Nat.le_of_ble_eq_true rfl⟩ rfl (k_27_49 (I := I) (A := A) (x := nI (m / 2 ^ 24)) (l := l) hP (by first | omega | (simp; omega)) (fun I1 A1 f1 g1 h1 => ?_))
  show mq 26 18 [some (.ref 49), some (.int (nI m)), some (.int (nI 4)), some (.int (nI 3))] [] (hS n u I1 A1 J B mk sn L xs X) _
  refine x_iincV (pc := 18) (v := nI 2) (ml' := [some (.ref 49), some (.int (nI m)), some (.int (nI 4)), some (.int (nI 2))]) rfl rfl (by decide) rfl ?_
  refine x_step (pc := 21) (pc' := 4) rfl rfl rfl rfl ?_
  refine x_il1 (pc := 4) rfl rfl ?_
  refine x_ifN_lt (pc := 5) (t := 24) rfl rfl (by omega) ?_
  refine x_al1 (pc := 8) rfl rfl ?_
  refine x_il1 (pc := 9) rfl rfl ?_
  refine x_const (pc := 10) (pc' := 12) (.int (nI 8)) rfl rfl rfl rfl ?_
  refine x_il1 (pc := 12) rfl rfl ?_
  refine x_imulN (pc := 13) (c := 16) rfl rfl ?_
  refine x_iushrV (pc := 14) (v := nI (m / 2 ^ 16)) rfl (pk_ushrN (by omega) _ 16 (by decide)) ?_
  refine x_k (pc := 15) rfl rfl rfl ⟨Nat.le_of_ble_eq_true rfl, Nat.le_of_ble_eq_true rfl, Nat.le_of_ble_eq_true rfl⟩ rfl (k_27_49 (I := I1) (A := A1) (x := nI (m / 2 ^ 16)) (l := l ++ [b8 (nI (m / 2 ^ 24))]) h1 (by first | omega | (simp; omega)) (fun I2 A2 f2 g2 h2 => ?_))
  show mq 26 18 [some (.ref 49), some (.int (nI m)), some (.int (nI 4)), some (.int (nI 2))] [] (hS n u I2 A2 J B mk sn L xs X) _
  refine x_iincV (pc := 18) (v := nI 1) (ml' := [some (.ref 49), some (.int (nI m)), some (.int (nI 4)), some (.int (nI 1))]) rfl rfl (by decide) rfl ?_
  refine x_step (pc := 21) (pc' := 4) rfl rfl rfl rfl ?_
  refine x_il1 (pc := 4) rfl rfl ?_
  refine x_ifN_lt (pc := 5) (t := 24) rfl rfl (by omega) ?_
  refine x_al1 (pc := 8) rfl rfl ?_
  refine x_il1 (pc := 9) rfl rfl ?_
  refine x_const (pc := 10) (pc' := 12) (.int (nI 8)) rfl rfl rfl rfl ?_
  refine x_il1 (pc := 12) rfl rfl ?_
  refine x_imulN (pc := 13) (c := 8) rfl rfl ?_
  refine x_iushrV (pc := 14) (v := nI (m / 2 ^ 8)) rfl (pk_ushrN (by omega) _ 8 (by decide)) ?_
  refine x_k (pc := 15) rfl rfl rfl ⟨Nat.le_of_ble_eq_true rfl, Nat.le_of_ble_eq_true rfl, Nat.le_of_ble_eq_true rfl⟩ rfl (k_27_49 (I := I2) (A := A2) (x := nI (m / 2 ^ 8)) (l := l ++ [b8 (nI (m / 2 ^ 24))] ++ [b8 (nI (m / 2 ^ 16))]) h2 (by first | omega | (simp; omega)) (fun I3 A3 f3 g3 h3 => ?_))
  show mq 26 18 [some (.ref 49), some (.int (nI m)), some (.int (nI 4)), some (.int (nI 1))] [] (hS n u I3 A3 J B mk sn L xs X) _
  refine x_iincV (pc := 18) (v := nI 0) (ml' := [some (.ref 49), some (.int (nI m)), some (.int (nI 4)), some (.int (nI 0))]) rfl rfl (by decide) rfl ?_
  refine x_step (pc := 21) (pc' := 4) rfl rfl rfl rfl ?_
  refine x_il1 (pc := 4) rfl rfl ?_
  refine x_ifN_lt (pc := 5) (t := 24) rfl rfl (by omega) ?_
  refine x_al1 (pc := 8) rfl rfl ?_
  refine x_il1 (pc := 9) rfl rfl ?_
  refine x_const (pc := 10) (pc' := 12) (.int (nI 8)) rfl rfl rfl rfl ?_
  refine x_il1 (pc := 12) rfl rfl ?_
  refine x_imulN (pc := 13) (c := 0) rfl rfl ?_
  refine x_iushrV (pc := 14) (v := nI (m / 2 ^ 0)) rfl (pk_ushrN (by omega) _ 0 (by decide)) ?_
  refine x_k (pc := 15) rfl rfl rfl ⟨Nat.le_of_ble_eq_true rfl, Nat.le_of_ble_eq_true rfl, Nat.le_of_ble_eq_true rfl⟩ rfl (k_27_49 (I := I3) (A := A3) (x := nI (m / 2 ^ 0)) (l := l ++ [b8 (nI (m / 2 ^ 24))] ++ [b8 (nI (m / 2 ^ 16))] ++ [b8 (nI (m / 2 ^ 8))]) h3 (by first | omega | (simp; omega)) (fun I4 A4 f4 g4 h4 => ?_))
  show mq 26 18 [some (.ref 49), some (.int (nI m)), some (.int (nI 4)), some (.int (nI 0))] [] (hS n u I4 A4 J B mk sn L xs X) _
  refine x_iincV (pc := 18) (v := (-1)) (ml' := [some (.ref 49), some (.int (nI m)), some (.int (nI 4)), some (.int (-1))]) rfl rfl (by decide) rfl ?_
  refine x_step (pc := 21) (pc' := 4) rfl rfl rfl rfl ?_
  refine x_il1 (pc := 4) rfl rfl ?_
  refine x_if_lt (pc := 5) (t := 24) rfl rfl rfl (fun _ => ?_) (fun c => absurd (by decide) c)
  refine x_ret (pc := 24) rfl rfl ?_
  have ev : l ++ [b8 (nI (m / 2 ^ 24))] ++ [b8 (nI (m / 2 ^ 16))] ++ [b8 (nI (m / 2 ^ 8))] ++ [b8 (nI (m / 2 ^ 0))] = l ++ [m / 2 ^ 24 % 256, m / 2 ^ 16 % 256, m / 2 ^ 8 % 256, m / 2 ^ 0 % 256] := by
    simp only [b8_nI, List.append_assoc, List.cons_append, List.nil_append]
  rw [ev] at h4
  exact kk _ _ (Fr_cons (Fr_cons (Fr_cons (Fr_cons (Fr_refl _ _) f1 (by decide)) f2 (by decide)) f3 (by decide)) f4 (by decide)) (Fr_cons (Fr_cons (Fr_cons (Fr_cons (Fr_refl _ _) g1 (by decide)) g2 (by decide)) g3 (by decide)) g4 (by decide)) h4
set_option maxRecDepth 100000 in
set_option maxHeartbeats 4000000 in
theorem l_68_49 {x0 : Int32} {Q : mO × mHp → Prop} : ∀ (f i m : Nat) (l : List Nat) {I : Nat → Int32} {A : Nat → Nat → Int32}, (i + f = 4) → (m < 2 ^ 32) → (l.length < 1900 + i) → (Pg 14 3 128 I A l) → (∀ I' A', Fr [14] I I' → Fr [3] A A' → Pg 14 3 128 I' A' (l ++ vE f m) → Q (.inl none, hS n u I' A' J B mk sn L xs X)) → mq 68 4 [some (.ref 49), some (.int x0), some (.int (nI m)), some (.int (nI i))] [] (hS n u I A J B mk sn L xs X) Q := by
  intro f
  induction f with
  | zero =>
    intro i m l I A hz hm hl hP kk
    refine x_il1 (pc := 4) rfl rfl ?_
    refine x_const (pc := 5) (pc' := 6) (.int (nI 4)) rfl rfl rfl rfl ?_
    refine x_cmpN_ge (pc := 6) (t := 39) rfl rfl (by omega) (by omega) (fun c6 => ?_) (fun c6 => ?_)
    · refine x_al1 (pc := 39) rfl rfl ?_
      refine x_il1 (pc := 40) rfl rfl ?_
      refine x_k (pc := 41) rfl rfl rfl ⟨Nat.le_of_ble_eq_true rfl, Nat.le_of_ble_eq_true rfl, Nat.le_of_ble_eq_true rfl⟩ rfl (k_27_49 (I := I) (A := A) (x := nI m) (l := l) hP (by omega) (fun I9 A9 f9 g9 h9 => ?_))
      show mq 68 44 [some (.ref 49), some (.int x0), some (.int (nI m)), some (.int (nI i))] [] (hS n u I9 A9 J B mk sn L xs X) _
      refine x_ret (pc := 44) rfl rfl ?_
      rw [b8_nI] at h9
      exact kk _ _ f9 g9 h9
    · omega
  | succ f ih =>
    intro i m l I A hz hm hl hP kk
    refine x_il1 (pc := 4) rfl rfl ?_
    refine x_const (pc := 5) (pc' := 6) (.int (nI 4)) rfl rfl rfl rfl ?_
    refine x_cmpN_ge (pc := 6) (t := 39) rfl rfl (by omega) (by omega) (fun c6 => ?_) (fun c6 => ?_)
    · omega
    · refine x_il1 (pc := 9) rfl rfl ?_
      refine x_const (pc := 10) (pc' := 12) (.int (nI 7)) rfl rfl rfl rfl ?_
      refine x_iushrV (pc := 12) (v := nI (m / 128)) rfl (pk_ushrN hm _ 7 (by decide)) ?_
      refine x_ifN_eq (pc := 13) (t := 39) rfl rfl (by omega) (fun c13 => ?_) (fun c13 => ?_)
      · have ev : vE (f + 1) m = [m % 256] := if_pos c13
        rw [ev] at kk
        refine x_al1 (pc := 39) rfl rfl ?_
        refine x_il1 (pc := 40) rfl rfl ?_
        refine x_k (pc := 41) rfl rfl rfl ⟨Nat.le_of_ble_eq_true rfl, Nat.le_of_ble_eq_true rfl, Nat.le_of_ble_eq_true rfl⟩ rfl (k_27_49 (I := I) (A := A) (x := nI m) (l := l) hP (by omega) (fun I9 A9 f9 g9 h9 => ?_))
        show mq 68 44 [some (.ref 49), some (.int x0), some (.int (nI m)), some (.int (nI i))] [] (hS n u I9 A9 J B mk sn L xs X) _
        refine x_ret (pc := 44) rfl rfl ?_
        rw [b8_nI] at h9
        exact kk _ _ f9 g9 h9
      · refine x_al1 (pc := 16) rfl rfl ?_
        refine x_il1 (pc := 17) rfl rfl ?_
        refine x_const (pc := 18) (pc' := 20) (.int (nI 127)) rfl rfl rfl rfl ?_
        refine x_iandV (pc := 20) (v := nI (m % 128)) rfl (pk_andN hm 7 (by decide)) ?_
        refine x_const (pc := 21) (pc' := 24) (.int (nI 128)) rfl rfl rfl rfl ?_
        refine x_iorV (pc := 24) (v := nI (m % 128 + 128)) rfl (or128 m) ?_
        refine x_k (pc := 25) rfl rfl rfl ⟨Nat.le_of_ble_eq_true rfl, Nat.le_of_ble_eq_true rfl, Nat.le_of_ble_eq_true rfl⟩ rfl (k_27_49 (I := I) (A := A) (x := nI (m % 128 + 128)) (l := l) hP (by omega) (fun I1 A1 f1 g1 h1 => ?_))
        show mq 68 28 [some (.ref 49), some (.int x0), some (.int (nI m)), some (.int (nI i))] [] (hS n u I1 A1 J B mk sn L xs X) _
        refine x_il1 (pc := 28) rfl rfl ?_
        refine x_const (pc := 29) (pc' := 31) (.int (nI 7)) rfl rfl rfl rfl ?_
        refine x_iushrV (pc := 31) (v := nI (m / 128)) rfl (pk_ushrN hm _ 7 (by decide)) ?_
        refine x_is1 (pc := 32) (ml' := [some (.ref 49), some (.int x0), some (.int (nI (m / 128))), some (.int (nI i))]) rfl rfl ?_
        refine x_iincN (pc := 33) (c := 1) (ml' := [some (.ref 49), some (.int x0), some (.int (nI (m / 128))), some (.int (nI (i + 1)))]) rfl rfl rfl rfl ?_
        refine x_step (pc := 36) (pc' := 4) rfl rfl rfl rfl ?_
        have ev : l ++ vE (f + 1) m = l ++ [b8 (nI (m % 128 + 128))] ++ vE f (m / 128) := by
          conv => lhs; unfold vE
          rw [if_neg c13, b8_nI, show (m % 128 + 128) % 256 = m % 128 + 128 by omega]
          simp
        rw [ev] at kk
        exact ih (i + 1) (m / 128) _ (I := I1) (A := A1) (by omega) (by omega) (by simp; omega) h1 (fun I2 A2 f2 g2 h2 => kk I2 A2 (Fr_cons f1 f2 (by decide)) (Fr_cons g1 g2 (by decide)) h2)
set_option maxRecDepth 100000 in
set_option maxHeartbeats 4000000 in
theorem k_68_49 {m : Nat} {l : List Nat} (hP : Pg 14 3 128 I A l) (hl : l.length < 1900) (hm : m < 2 ^ 32) {Q : mO × mHp → Prop} (kk : ∀ I' A', Fr [14] I I' → Fr [3] A A' → Pg 14 3 128 I' A' (l ++ vE 4 m) → Q (.inl none, hS n u I' A' J B mk sn L xs X)) : mq 68 0 [some (.ref 49), some (.int (nI m)), none, none] [] (hS n u I A J B mk sn L xs X) Q := by
  refine x_il1 (pc := 0) rfl rfl ?_
  refine x_is1 (pc := 1) (ml' := [some (.ref 49), some (.int (nI m)), some (.int (nI m)), none]) rfl rfl ?_
  refine x_const (pc := 2) (pc' := 3) (.int (nI 0)) rfl rfl rfl rfl ?_
  refine x_is1 (pc := 3) (ml' := [some (.ref 49), some (.int (nI m)), some (.int (nI m)), some (.int (nI 0))]) rfl rfl ?_
  exact l_68_49 4 0 m l rfl hm (by omega) hP kk
set_option maxRecDepth 100000 in
set_option maxHeartbeats 4000000 in
theorem k_26_51_1 {m : Nat} {l : List Nat} (hP : Pg 15 4 32 I A l) (hl : l.length < 1900) (hm : m < 2 ^ 32) {Q : mO × mHp → Prop} (kk : ∀ I' A', Fr [15] I I' → Fr [4] A A' → Pg 15 4 32 I' A' (l ++ [m / 2 ^ 0 % 256]) → Q (.inl none, hS n u I' A' J B mk sn L xs X)) : mq 26 0 [some (.ref 51), some (.int (nI m)), some (.int (nI 1)), none] [] (hS n u I A J B mk sn L xs X) Q := by
  refine x_il1 (pc := 0) rfl rfl ?_
  refine x_const (pc := 1) (pc' := 2) (.int (nI 1)) rfl rfl rfl rfl ?_
  refine x_isubV (pc := 2) (v := nI 0) rfl (by decide) ?_
  refine x_is1 (pc := 3) (ml' := [some (.ref 51), some (.int (nI m)), some (.int (nI 1)), some (.int (nI 0))]) rfl rfl ?_
  refine x_il1 (pc := 4) rfl rfl ?_
  refine x_ifN_lt (pc := 5) (t := 24) rfl rfl (by omega) ?_
  refine x_al1 (pc := 8) rfl rfl ?_
  refine x_il1 (pc := 9) rfl rfl ?_
  refine x_const (pc := 10) (pc' := 12) (.int (nI 8)) rfl rfl rfl rfl ?_
  refine x_il1 (pc := 12) rfl rfl ?_
  refine x_imulN (pc := 13) (c := 0) rfl rfl ?_
  refine x_iushrV (pc := 14) (v := nI (m / 2 ^ 0)) rfl (pk_ushrN (by omega) _ 0 (by decide)) ?_
  refine x_k (pc := 15) rfl rfl rfl ⟨Nat.le_of_ble_eq_true rfl, Nat.le_of_ble_eq_true rfl, Nat.le_of_ble_eq_true rfl⟩ rfl (k_27_51 (I := I) (A := A) (x := nI (m / 2 ^ 0)) (l := l) hP (by first | omega | (simp; omega)) (fun I1 A1 f1 g1 h1 => ?_))
  show mq 26 18 [some (.ref 51), some (.int (nI m)), some (.int (nI 1)), some (.int (nI 0))] [] (hS n u I1 A1 J B mk sn L xs X) _
  refine x_iincV (pc := 18) (v := (-1)) (ml' := [some (.ref 51), some (.int (nI m)), some (.int (nI 1)), some (.int (-1))]) rfl rfl (by decide) rfl ?_
  refine x_step (pc := 21) (pc' := 4) rfl rfl rfl rfl ?_
  refine x_il1 (pc := 4) rfl rfl ?_
  refine x_if_lt (pc := 5) (t := 24) rfl rfl rfl (fun _ => ?_) (fun c => absurd (by decide) c)
  refine x_ret (pc := 24) rfl rfl ?_
  have ev : l ++ [b8 (nI (m / 2 ^ 0))] = l ++ [m / 2 ^ 0 % 256] := by
    simp only [b8_nI, List.append_assoc, List.cons_append, List.nil_append]
  rw [ev] at h1
  exact kk _ _ (Fr_cons (Fr_refl _ _) f1 (by decide)) (Fr_cons (Fr_refl _ _) g1 (by decide)) h1
set_option maxRecDepth 100000 in
set_option maxHeartbeats 4000000 in
theorem k_26_51_2 {m : Nat} {l : List Nat} (hP : Pg 15 4 32 I A l) (hl : l.length < 1900) (hm : m < 2 ^ 32) {Q : mO × mHp → Prop} (kk : ∀ I' A', Fr [15] I I' → Fr [4] A A' → Pg 15 4 32 I' A' (l ++ [m / 2 ^ 8 % 256, m / 2 ^ 0 % 256]) → Q (.inl none, hS n u I' A' J B mk sn L xs X)) : mq 26 0 [some (.ref 51), some (.int (nI m)), some (.int (nI 2)), none] [] (hS n u I A J B mk sn L xs X) Q := by
  refine x_il1 (pc := 0) rfl rfl ?_
  refine x_const (pc := 1) (pc' := 2) (.int (nI 1)) rfl rfl rfl rfl ?_
  refine x_isubV (pc := 2) (v := nI 1) rfl (by decide) ?_
  refine x_is1 (pc := 3) (ml' := [some (.ref 51), some (.int (nI m)), some (.int (nI 2)), some (.int (nI 1))]) rfl rfl ?_
  refine x_il1 (pc := 4) rfl rfl ?_
  refine x_ifN_lt (pc := 5) (t := 24) rfl rfl (by omega) ?_
  refine x_al1 (pc := 8) rfl rfl ?_
  refine x_il1 (pc := 9) rfl rfl ?_
  refine x_const (pc := 10) (pc' := 12) (.int (nI 8)) rfl rfl rfl rfl ?_
  refine x_il1 (pc := 12) rfl rfl ?_
  refine x_imulN (pc := 13) (c := 8) rfl rfl ?_
  refine x_iushrV (pc := 14) (v := nI (m / 2 ^ 8)) rfl (pk_ushrN (by omega) _ 8 (by decide)) ?_
  refine x_k (pc := 15) rfl rfl rfl ⟨Nat.le_of_ble_eq_true rfl, Nat.le_of_ble_eq_true rfl, Nat.le_of_ble_eq_true rfl⟩ rfl (k_27_51 (I := I) (A := A) (x := nI (m / 2 ^ 8)) (l := l) hP (by first | omega | (simp; omega)) (fun I1 A1 f1 g1 h1 => ?_))
  show mq 26 18 [some (.ref 51), some (.int (nI m)), some (.int (nI 2)), some (.int (nI 1))] [] (hS n u I1 A1 J B mk sn L xs X) _
  refine x_iincV (pc := 18) (v := nI 0) (ml' := [some (.ref 51), some (.int (nI m)), some (.int (nI 2)), some (.int (nI 0))]) rfl rfl (by decide) rfl ?_
  refine x_step (pc := 21) (pc' := 4) rfl rfl rfl rfl ?_
  refine x_il1 (pc := 4) rfl rfl ?_
  refine x_ifN_lt (pc := 5) (t := 24) rfl rfl (by omega) ?_
  refine x_al1 (pc := 8) rfl rfl ?_
  refine x_il1 (pc := 9) rfl rfl ?_
  refine x_const (pc := 10) (pc' := 12) (.int (nI 8)) rfl rfl rfl rfl ?_
  refine x_il1 (pc := 12) rfl rfl ?_
  refine x_imulN (pc := 13) (c := 0) rfl rfl ?_
  refine x_iushrV (pc := 14) (v := nI (m / 2 ^ 0)) rfl (pk_ushrN (by omega) _ 0 (by decide)) ?_
  refine x_k (pc := 15) rfl rfl rfl ⟨Nat.le_of_ble_eq_true rfl, Nat.le_of_ble_eq_true rfl, Nat.le_of_ble_eq_true rfl⟩ rfl (k_27_51 (I := I1) (A := A1) (x := nI (m / 2 ^ 0)) (l := l ++ [b8 (nI (m / 2 ^ 8))]) h1 (by first | omega | (simp; omega)) (fun I2 A2 f2 g2 h2 => ?_))
  show mq 26 18 [some (.ref 51), some (.int (nI m)), some (.int (nI 2)), some (.int (nI 0))] [] (hS n u I2 A2 J B mk sn L xs X) _
  refine x_iincV (pc := 18) (v := (-1)) (ml' := [some (.ref 51), some (.int (nI m)), some (.int (nI 2)), some (.int (-1))]) rfl rfl (by decide) rfl ?_
  refine x_step (pc := 21) (pc' := 4) rfl rfl rfl rfl ?_
  refine x_il1 (pc := 4) rfl rfl ?_
  refine x_if_lt (pc := 5) (t := 24) rfl rfl rfl (fun _ => ?_) (fun c => absurd (by decide) c)
  refine x_ret (pc := 24) rfl rfl ?_
  have ev : l ++ [b8 (nI (m / 2 ^ 8))] ++ [b8 (nI (m / 2 ^ 0))] = l ++ [m / 2 ^ 8 % 256, m / 2 ^ 0 % 256] := by
    simp only [b8_nI, List.append_assoc, List.cons_append, List.nil_append]
  rw [ev] at h2
  exact kk _ _ (Fr_cons (Fr_cons (Fr_refl _ _) f1 (by decide)) f2 (by decide)) (Fr_cons (Fr_cons (Fr_refl _ _) g1 (by decide)) g2 (by decide)) h2
set_option maxRecDepth 100000 in
set_option maxHeartbeats 4000000 in
theorem k_26_51_4 {m : Nat} {l : List Nat} (hP : Pg 15 4 32 I A l) (hl : l.length < 1900) (hm : m < 2 ^ 32) {Q : mO × mHp → Prop} (kk : ∀ I' A', Fr [15] I I' → Fr [4] A A' → Pg 15 4 32 I' A' (l ++ [m / 2 ^ 24 % 256, m / 2 ^ 16 % 256, m / 2 ^ 8 % 256, m / 2 ^ 0 % 256]) → Q (.inl none, hS n u I' A' J B mk sn L xs X)) : mq 26 0 [some (.ref 51), some (.int (nI m)), some (.int (nI 4)), none] [] (hS n u I A J B mk sn L xs X) Q := by
  refine x_il1 (pc := 0) rfl rfl ?_
  refine x_const (pc := 1) (pc' := 2) (.int (nI 1)) rfl rfl rfl rfl ?_
  refine x_isubV (pc := 2) (v := nI 3) rfl (by decide) ?_
  refine x_is1 (pc := 3) (ml' := [some (.ref 51), some (.int (nI m)), some (.int (nI 4)), some (.int (nI 3))]) rfl rfl ?_
  refine x_il1 (pc := 4) rfl rfl ?_
  refine x_ifN_lt (pc := 5) (t := 24) rfl rfl (by omega) ?_
  refine x_al1 (pc := 8) rfl rfl ?_
  refine x_il1 (pc := 9) rfl rfl ?_
  refine x_const (pc := 10) (pc' := 12) (.int (nI 8)) rfl rfl rfl rfl ?_
  refine x_il1 (pc := 12) rfl rfl ?_
  refine x_imulN (pc := 13) (c := 24) rfl rfl ?_
  refine x_iushrV (pc := 14) (v := nI (m / 2 ^ 24)) rfl (pk_ushrN (by omega) _ 24 (by decide)) ?_
  refine x_k (pc := 15) rfl rfl rfl ⟨Nat.le_of_ble_eq_true rfl, Nat.le_of_ble_eq_true rfl, Nat.le_of_ble_eq_true rfl⟩ rfl (k_27_51 (I := I) (A := A) (x := nI (m / 2 ^ 24)) (l := l) hP (by first | omega | (simp; omega)) (fun I1 A1 f1 g1 h1 => ?_))
  show mq 26 18 [some (.ref 51), some (.int (nI m)), some (.int (nI 4)), some (.int (nI 3))] [] (hS n u I1 A1 J B mk sn L xs X) _
  refine x_iincV (pc := 18) (v := nI 2) (ml' := [some (.ref 51), some (.int (nI m)), some (.int (nI 4)), some (.int (nI 2))]) rfl rfl (by decide) rfl ?_
  refine x_step (pc := 21) (pc' := 4) rfl rfl rfl rfl ?_
  refine x_il1 (pc := 4) rfl rfl ?_
  refine x_ifN_lt (pc := 5) (t := 24) rfl rfl (by omega) ?_
  refine x_al1 (pc := 8) rfl rfl ?_
  refine x_il1 (pc := 9) rfl rfl ?_
  refine x_const (pc := 10) (pc' := 12) (.int (nI 8)) rfl rfl rfl rfl ?_
  refine x_il1 (pc := 12) rfl rfl ?_
  refine x_imulN (pc := 13) (c := 16) rfl rfl ?_
  refine x_iushrV (pc := 14) (v := nI (m / 2 ^ 16)) rfl (pk_ushrN (by omega) _ 16 (by decide)) ?_
  refine x_k (pc := 15) rfl rfl rfl ⟨Nat.le_of_ble_eq_true rfl, Nat.le_of_ble_eq_true rfl, Nat.le_of_ble_eq_true rfl⟩ rfl (k_27_51 (I := I1) (A := A1) (x := nI (m / 2 ^ 16)) (l := l ++ [b8 (nI (m / 2 ^ 24))]) h1 (by first | omega | (simp; omega)) (fun I2 A2 f2 g2 h2 => ?_))
  show mq 26 18 [some (.ref 51), some (.int (nI m)), some (.int (nI 4)), some (.int (nI 2))] [] (hS n u I2 A2 J B mk sn L xs X) _
  refine x_iincV (pc := 18) (v := nI 1) (ml' := [some (.ref 51), some (.int (nI m)), some (.int (nI 4)), some (.int (nI 1))]) rfl rfl (by decide) rfl ?_
  refine x_step (pc := 21) (pc' := 4) rfl rfl rfl rfl ?_
  refine x_il1 (pc := 4) rfl rfl ?_
  refine x_ifN_lt (pc := 5) (t := 24) rfl rfl (by omega) ?_
  refine x_al1 (pc := 8) rfl rfl ?_
  refine x_il1 (pc := 9) rfl rfl ?_
  refine x_const (pc := 10) (pc' := 12) (.int (nI 8)) rfl rfl rfl rfl ?_
  refine x_il1 (pc := 12) rfl rfl ?_
  refine x_imulN (pc := 13) (c := 8) rfl rfl ?_
  refine x_iushrV (pc := 14) (v := nI (m / 2 ^ 8)) rfl (pk_ushrN (by omega) _ 8 (by decide)) ?_
  refine x_k (pc := 15) rfl rfl rfl ⟨Nat.le_of_ble_eq_true rfl, Nat.le_of_ble_eq_true rfl, Nat.le_of_ble_eq_true rfl⟩ rfl (k_27_51 (I := I2) (A := A2) (x := nI (m / 2 ^ 8)) (l := l ++ [b8 (nI (m / 2 ^ 24))] ++ [b8 (nI (m / 2 ^ 16))]) h2 (by first | omega | (simp; omega)) (fun I3 A3 f3 g3 h3 => ?_))
  show mq 26 18 [some (.ref 51), some (.int (nI m)), some (.int (nI 4)), some (.int (nI 1))] [] (hS n u I3 A3 J B mk sn L xs X) _
  refine x_iincV (pc := 18) (v := nI 0) (ml' := [some (.ref 51), some (.int (nI m)), some (.int (nI 4)), some (.int (nI 0))]) rfl rfl (by decide) rfl ?_
  refine x_step (pc := 21) (pc' := 4) rfl rfl rfl rfl ?_
  refine x_il1 (pc := 4) rfl rfl ?_
  refine x_ifN_lt (pc := 5) (t := 24) rfl rfl (by omega) ?_
  refine x_al1 (pc := 8) rfl rfl ?_
  refine x_il1 (pc := 9) rfl rfl ?_
  refine x_const (pc := 10) (pc' := 12) (.int (nI 8)) rfl rfl rfl rfl ?_
  refine x_il1 (pc := 12) rfl rfl ?_
  refine x_imulN (pc := 13) (c := 0) rfl rfl ?_
  refine x_iushrV (pc := 14) (v := nI (m / 2 ^ 0)) rfl (pk_ushrN (by omega) _ 0 (by decide)) ?_
  refine x_k (pc := 15) rfl rfl rfl ⟨Nat.le_of_ble_eq_true rfl, Nat.le_of_ble_eq_true rfl, Nat.le_of_ble_eq_true rfl⟩ rfl (k_27_51 (I := I3) (A := A3) (x := nI (m / 2 ^ 0)) (l := l ++ [b8 (nI (m / 2 ^ 24))] ++ [b8 (nI (m / 2 ^ 16))] ++ [b8 (nI (m / 2 ^ 8))]) h3 (by first | omega | (simp; omega)) (fun I4 A4 f4 g4 h4 => ?_))
  show mq 26 18 [some (.ref 51), some (.int (nI m)), some (.int (nI 4)), some (.int (nI 0))] [] (hS n u I4 A4 J B mk sn L xs X) _
  refine x_iincV (pc := 18) (v := (-1)) (ml' := [some (.ref 51), some (.int (nI m)), some (.int (nI 4)), some (.int (-1))]) rfl rfl (by decide) rfl ?_
  refine x_step (pc := 21) (pc' := 4) rfl rfl rfl rfl ?_
  refine x_il1 (pc := 4) rfl rfl ?_
  refine x_if_lt (pc := 5) (t := 24) rfl rfl rfl (fun _ => ?_) (fun c => absurd (by decide) c)
  refine x_ret (pc := 24) rfl rfl ?_
  have ev : l ++ [b8 (nI (m / 2 ^ 24))] ++ [b8 (nI (m / 2 ^ 16))] ++ [b8 (nI (m / 2 ^ 8))] ++ [b8 (nI (m / 2 ^ 0))] = l ++ [m / 2 ^ 24 % 256, m / 2 ^ 16 % 256, m / 2 ^ 8 % 256, m / 2 ^ 0 % 256] := by
    simp only [b8_nI, List.append_assoc, List.cons_append, List.nil_append]
  rw [ev] at h4
  exact kk _ _ (Fr_cons (Fr_cons (Fr_cons (Fr_cons (Fr_refl _ _) f1 (by decide)) f2 (by decide)) f3 (by decide)) f4 (by decide)) (Fr_cons (Fr_cons (Fr_cons (Fr_cons (Fr_refl _ _) g1 (by decide)) g2 (by decide)) g3 (by decide)) g4 (by decide)) h4
set_option maxRecDepth 100000 in
set_option maxHeartbeats 4000000 in
theorem l_68_51 {x0 : Int32} {Q : mO × mHp → Prop} : ∀ (f i m : Nat) (l : List Nat) {I : Nat → Int32} {A : Nat → Nat → Int32}, (i + f = 4) → (m < 2 ^ 32) → (l.length < 1900 + i) → (Pg 15 4 32 I A l) → (∀ I' A', Fr [15] I I' → Fr [4] A A' → Pg 15 4 32 I' A' (l ++ vE f m) → Q (.inl none, hS n u I' A' J B mk sn L xs X)) → mq 68 4 [some (.ref 51), some (.int x0), some (.int (nI m)), some (.int (nI i))] [] (hS n u I A J B mk sn L xs X) Q := by
  intro f
  induction f with
  | zero =>
    intro i m l I A hz hm hl hP kk
    refine x_il1 (pc := 4) rfl rfl ?_
    refine x_const (pc := 5) (pc' := 6) (.int (nI 4)) rfl rfl rfl rfl ?_
    refine x_cmpN_ge (pc := 6) (t := 39) rfl rfl (by omega) (by omega) (fun c6 => ?_) (fun c6 => ?_)
    · refine x_al1 (pc := 39) rfl rfl ?_
      refine x_il1 (pc := 40) rfl rfl ?_
      refine x_k (pc := 41) rfl rfl rfl ⟨Nat.le_of_ble_eq_true rfl, Nat.le_of_ble_eq_true rfl, Nat.le_of_ble_eq_true rfl⟩ rfl (k_27_51 (I := I) (A := A) (x := nI m) (l := l) hP (by omega) (fun I9 A9 f9 g9 h9 => ?_))
      show mq 68 44 [some (.ref 51), some (.int x0), some (.int (nI m)), some (.int (nI i))] [] (hS n u I9 A9 J B mk sn L xs X) _
      refine x_ret (pc := 44) rfl rfl ?_
      rw [b8_nI] at h9
      exact kk _ _ f9 g9 h9
    · omega
  | succ f ih =>
    intro i m l I A hz hm hl hP kk
    refine x_il1 (pc := 4) rfl rfl ?_
    refine x_const (pc := 5) (pc' := 6) (.int (nI 4)) rfl rfl rfl rfl ?_
    refine x_cmpN_ge (pc := 6) (t := 39) rfl rfl (by omega) (by omega) (fun c6 => ?_) (fun c6 => ?_)
    · omega
    · refine x_il1 (pc := 9) rfl rfl ?_
      refine x_const (pc := 10) (pc' := 12) (.int (nI 7)) rfl rfl rfl rfl ?_
      refine x_iushrV (pc := 12) (v := nI (m / 128)) rfl (pk_ushrN hm _ 7 (by decide)) ?_
      refine x_ifN_eq (pc := 13) (t := 39) rfl rfl (by omega) (fun c13 => ?_) (fun c13 => ?_)
      · have ev : vE (f + 1) m = [m % 256] := if_pos c13
        rw [ev] at kk
        refine x_al1 (pc := 39) rfl rfl ?_
        refine x_il1 (pc := 40) rfl rfl ?_
        refine x_k (pc := 41) rfl rfl rfl ⟨Nat.le_of_ble_eq_true rfl, Nat.le_of_ble_eq_true rfl, Nat.le_of_ble_eq_true rfl⟩ rfl (k_27_51 (I := I) (A := A) (x := nI m) (l := l) hP (by omega) (fun I9 A9 f9 g9 h9 => ?_))
        show mq 68 44 [some (.ref 51), some (.int x0), some (.int (nI m)), some (.int (nI i))] [] (hS n u I9 A9 J B mk sn L xs X) _
        refine x_ret (pc := 44) rfl rfl ?_
        rw [b8_nI] at h9
        exact kk _ _ f9 g9 h9
      · refine x_al1 (pc := 16) rfl rfl ?_
        refine x_il1 (pc := 17) rfl rfl ?_
        refine x_const (pc := 18) (pc' := 20) (.int (nI 127)) rfl rfl rfl rfl ?_
        refine x_iandV (pc := 20) (v := nI (m % 128)) rfl (pk_andN hm 7 (by decide)) ?_
        refine x_const (pc := 21) (pc' := 24) (.int (nI 128)) rfl rfl rfl rfl ?_
        refine x_iorV (pc := 24) (v := nI (m % 128 + 128)) rfl (or128 m) ?_
        refine x_k (pc := 25) rfl rfl rfl ⟨Nat.le_of_ble_eq_true rfl, Nat.le_of_ble_eq_true rfl, Nat.le_of_ble_eq_true rfl⟩ rfl (k_27_51 (I := I) (A := A) (x := nI (m % 128 + 128)) (l := l) hP (by omega) (fun I1 A1 f1 g1 h1 => ?_))
        show mq 68 28 [some (.ref 51), some (.int x0), some (.int (nI m)), some (.int (nI i))] [] (hS n u I1 A1 J B mk sn L xs X) _
        refine x_il1 (pc := 28) rfl rfl ?_
        refine x_const (pc := 29) (pc' := 31) (.int (nI 7)) rfl rfl rfl rfl ?_
        refine x_iushrV (pc := 31) (v := nI (m / 128)) rfl (pk_ushrN hm _ 7 (by decide)) ?_
        refine x_is1 (pc := 32) (ml' := [some (.ref 51), some (.int x0), some (.int (nI (m / 128))), some (.int (nI i))]) rfl rfl ?_
        refine x_iincN (pc := 33) (c := 1) (ml' := [some (.ref 51), some (.int x0), some (.int (nI (m / 128))), some (.int (nI (i + 1)))]) rfl rfl rfl rfl ?_
        refine x_step (pc := 36) (pc' := 4) rfl rfl rfl rfl ?_
        have ev : l ++ vE (f + 1) m = l ++ [b8 (nI (m % 128 + 128))] ++ vE f (m / 128) := by
          conv => lhs; unfold vE
          rw [if_neg c13, b8_nI, show (m % 128 + 128) % 256 = m % 128 + 128 by omega]
          simp
        rw [ev] at kk
        exact ih (i + 1) (m / 128) _ (I := I1) (A := A1) (by omega) (by omega) (by simp; omega) h1 (fun I2 A2 f2 g2 h2 => kk I2 A2 (Fr_cons f1 f2 (by decide)) (Fr_cons g1 g2 (by decide)) h2)
set_option maxRecDepth 100000 in
set_option maxHeartbeats 4000000 in
theorem k_68_51 {m : Nat} {l : List Nat} (hP : Pg 15 4 32 I A l) (hl : l.length < 1900) (hm : m < 2 ^ 32) {Q : mO × mHp → Prop} (kk : ∀ I' A', Fr [15] I I' → Fr [4] A A' → Pg 15 4 32 I' A' (l ++ vE 4 m) → Q (.inl none, hS n u I' A' J B mk sn L xs X)) : mq 68 0 [some (.ref 51), some (.int (nI m)), none, none] [] (hS n u I A J B mk sn L xs X) Q := by
  refine x_il1 (pc := 0) rfl rfl ?_
  refine x_is1 (pc := 1) (ml' := [some (.ref 51), some (.int (nI m)), some (.int (nI m)), none]) rfl rfl ?_
  refine x_const (pc := 2) (pc' := 3) (.int (nI 0)) rfl rfl rfl rfl ?_
  refine x_is1 (pc := 3) (ml' := [some (.ref 51), some (.int (nI m)), some (.int (nI m)), some (.int (nI 0))]) rfl rfl ?_
  exact l_68_51 4 0 m l rfl hm (by omega) hP kk
end S44
