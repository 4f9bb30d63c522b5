/-! A slot's head as bytes; a batch made ready. -/
/-- the eight bytes that a slot begins with -/
def hdr (m o g b : Nat) : List Nat := [m / 2 ^ 8 % 256, m / 2 ^ 0 % 256, o % 256, g % 256, b / 2 ^ 24 % 256, b / 2 ^ 16 % 256, b / 2 ^ 8 % 256, b / 2 ^ 0 % 256]
section S47
variable {n u : Nat} {I : Nat → Int32} {A : Nat → Nat → Int32} {J : Int64} {B : Nat → Int64} {mk sn L : Nat} {xs : Nat → Int32} {X : Nat → mC} {D : Nat → Nat} 
set_option maxRecDepth 100000 in
set_option maxHeartbeats 4000000 in
theorem k_72_49 {m o g b : Nat} (hm : m < 2 ^ 32) (hb : b < 2 ^ 32) {Q : mO × mHp → Prop} (kk : ∀ I' A', Fr [14] I I' → Fr [3] A A' → Pg 14 3 128 I' A' (hdr m o g b) → Q (.inl none, hS n u I' A' J B mk sn L xs X)) : mq 72 0 [some (.ref 49), some (.int (nI m)), some (.int (nI o)), some (.int (nI g)), some (.int (nI b))] [] (hS n u I A J B mk sn L xs X) Q := by
  refine x_al1 (pc := 0) rfl rfl ?_
  refine x_k (pc := 1) rfl rfl rfl ⟨Nat.le_of_ble_eq_true rfl, Nat.le_of_ble_eq_true rfl, Nat.le_of_ble_eq_true rfl⟩ rfl (k_25_49 (I := I) (A := A) (fun I1 A1 f1 g1 h1 => ?_))
  show mq 72 4 [some (.ref 49), some (.int (nI m)), some (.int (nI o)), some (.int (nI g)), some (.int (nI b))] [] (hS n u I1 A1 J B mk sn L xs X) _
  refine x_al1 (pc := 4) rfl rfl ?_
  refine x_il1 (pc := 5) rfl rfl ?_
  refine x_const (pc := 6) (pc' := 7) (.int (nI 2)) rfl rfl rfl rfl ?_
  refine x_k (pc := 7) rfl rfl rfl ⟨Nat.le_of_ble_eq_true rfl, Nat.le_of_ble_eq_true rfl, Nat.le_of_ble_eq_true rfl⟩ rfl (k_26_49_2 (I := I1) (A := A1) (m := m) (l := []) h1 (by simp) (by omega) (fun I2 A2 f2 g2 h2 => ?_))
  show mq 72 10 [some (.ref 49), some (.int (nI m)), some (.int (nI o)), some (.int (nI g)), some (.int (nI b))] [] (hS n u I2 A2 J B mk sn L xs X) _
  refine x_al1 (pc := 10) rfl rfl ?_
  refine x_il1 (pc := 11) rfl rfl ?_
  refine x_k (pc := 12) rfl rfl rfl ⟨Nat.le_of_ble_eq_true rfl, Nat.le_of_ble_eq_true rfl, Nat.le_of_ble_eq_true rfl⟩ rfl (k_27_49 (I := I2) (A := A2) (x := nI o) (l := [] ++ [m / 2 ^ 8 % 256, m / 2 ^ 0 % 256]) h2 (by simp) (fun I3 A3 f3 g3 h3 => ?_))
  show mq 72 15 [some (.ref 49), some (.int (nI m)), some (.int (nI o)), some (.int (nI g)), some (.int (nI b))] [] (hS n u I3 A3 J B mk sn L xs X) _
  refine x_al1 (pc := 15) rfl rfl ?_
  refine x_il1 (pc := 16) rfl rfl ?_
  refine x_k (pc := 17) rfl rfl rfl ⟨Nat.le_of_ble_eq_true rfl, Nat.le_of_ble_eq_true rfl, Nat.le_of_ble_eq_true rfl⟩ rfl (k_27_49 (I := I3) (A := A3) (x := nI g) (l := [] ++ [m / 2 ^ 8 % 256, m / 2 ^ 0 % 256] ++ [b8 (nI o)]) h3 (by simp) (fun I4 A4 f4 g4 h4 => ?_))
  show mq 72 20 [some (.ref 49), some (.int (nI m)), some (.int (nI o)), some (.int (nI g)), some (.int (nI b))] [] (hS n u I4 A4 J B mk sn L xs X) _
  refine x_al1 (pc := 20) rfl rfl ?_
  refine x_il2 (pc := 21) rfl rfl ?_
  refine x_const (pc := 23) (pc' := 24) (.int (nI 4)) rfl rfl rfl rfl ?_
  refine x_k (pc := 24) rfl rfl rfl ⟨Nat.le_of_ble_eq_true rfl, Nat.le_of_ble_eq_true rfl, Nat.le_of_ble_eq_true rfl⟩ rfl (k_26_49_4 (I := I4) (A := A4) (m := b) (l := [] ++ [m / 2 ^ 8 % 256, m / 2 ^ 0 % 256] ++ [b8 (nI o)] ++ [b8 (nI g)]) h4 (by simp) (by omega) (fun I5 A5 f5 g5 h5 => ?_))
  show mq 72 27 [some (.ref 49), some (.int (nI m)), some (.int (nI o)), some (.int (nI g)), some (.int (nI b))] [] (hS n u I5 A5 J B mk sn L xs X) _
  refine x_ret (pc := 27) rfl rfl ?_
  rw [b8_nI, b8_nI] at h5
  exact kk _ _ (Fr_cons (Fr_cons (Fr_cons (Fr_cons (Fr_cons (Fr_refl _ _) f1 (by decide)) f2 (by decide)) f3 (by decide)) f4 (by decide)) f5 (by decide)) (Fr_cons (Fr_cons (Fr_cons (Fr_cons (Fr_cons (Fr_refl _ _) g1 (by decide)) g2 (by decide)) g3 (by decide)) g4 (by decide)) g5 (by decide)) h5
set_option maxRecDepth 100000 in
set_option maxHeartbeats 4000000 in
theorem k_72_51 {m o g b : Nat} (hm : m < 2 ^ 32) (hb : b < 2 ^ 32) {Q : mO × mHp → Prop} (kk : ∀ I' A', Fr [15] I I' → Fr [4] A A' → Pg 15 4 32 I' A' (hdr m o g b) → Q (.inl none, hS n u I' A' J B mk sn L xs X)) : mq 72 0 [some (.ref 51), some (.int (nI m)), some (.int (nI o)), some (.int (nI g)), some (.int (nI b))] [] (hS n u I A J B mk sn L xs X) Q := by
  refine x_al1 (pc := 0) rfl rfl ?_
  refine x_k (pc := 1) rfl rfl rfl ⟨Nat.le_of_ble_eq_true rfl, Nat.le_of_ble_eq_true rfl, Nat.le_of_ble_eq_true rfl⟩ rfl (k_25_51 (I := I) (A := A) (fun I1 A1 f1 g1 h1 => ?_))
  show mq 72 4 [some (.ref 51), some (.int (nI m)), some (.int (nI o)), some (.int (nI g)), some (.int (nI b))] [] (hS n u I1 A1 J B mk sn L xs X) _
  refine x_al1 (pc := 4) rfl rfl ?_
  refine x_il1 (pc := 5) rfl rfl ?_
  refine x_const (pc := 6) (pc' := 7) (.int (nI 2)) rfl rfl rfl rfl ?_
  refine x_k (pc := 7) rfl rfl rfl ⟨Nat.le_of_ble_eq_true rfl, Nat.le_of_ble_eq_true rfl, Nat.le_of_ble_eq_true rfl⟩ rfl (k_26_51_2 (I := I1) (A := A1) (m := m) (l := []) h1 (by simp) (by omega) (fun I2 A2 f2 g2 h2 => ?_))
  show mq 72 10 [some (.ref 51), some (.int (nI m)), some (.int (nI o)), some (.int (nI g)), some (.int (nI b))] [] (hS n u I2 A2 J B mk sn L xs X) _
  refine x_al1 (pc := 10) rfl rfl ?_
  refine x_il1 (pc := 11) rfl rfl ?_
  refine x_k (pc := 12) rfl rfl rfl ⟨Nat.le_of_ble_eq_true rfl, Nat.le_of_ble_eq_true rfl, Nat.le_of_ble_eq_true rfl⟩ rfl (k_27_51 (I := I2) (A := A2) (x := nI o) (l := [] ++ [m / 2 ^ 8 % 256, m / 2 ^ 0 % 256]) h2 (by simp) (fun I3 A3 f3 g3 h3 => ?_))
  show mq 72 15 [some (.ref 51), some (.int (nI m)), some (.int (nI o)), some (.int (nI g)), some (.int (nI b))] [] (hS n u I3 A3 J B mk sn L xs X) _
  refine x_al1 (pc := 15) rfl rfl ?_
  refine x_il1 (pc := 16) rfl rfl ?_
  refine x_k (pc := 17) rfl rfl rfl ⟨Nat.le_of_ble_eq_true rfl, Nat.le_of_ble_eq_true rfl, Nat.le_of_ble_eq_true rfl⟩ rfl (k_27_51 (I := I3) (A := A3) (x := nI g) (l := [] ++ [m / 2 ^ 8 % 256, m / 2 ^ 0 % 256] ++ [b8 (nI o)]) h3 (by simp) (fun I4 A4 f4 g4 h4 => ?_))
  show mq 72 20 [some (.ref 51), some (.int (nI m)), some (.int (nI o)), some (.int (nI g)), some (.int (nI b))] [] (hS n u I4 A4 J B mk sn L xs X) _
  refine x_al1 (pc := 20) rfl rfl ?_
  refine x_il2 (pc := 21) rfl rfl ?_
  refine x_const (pc := 23) (pc' := 24) (.int (nI 4)) rfl rfl rfl rfl ?_
  refine x_k (pc := 24) rfl rfl rfl ⟨Nat.le_of_ble_eq_true rfl, Nat.le_of_ble_eq_true rfl, Nat.le_of_ble_eq_true rfl⟩ rfl (k_26_51_4 (I := I4) (A := A4) (m := b) (l := [] ++ [m / 2 ^ 8 % 256, m / 2 ^ 0 % 256] ++ [b8 (nI o)] ++ [b8 (nI g)]) h4 (by simp) (by omega) (fun I5 A5 f5 g5 h5 => ?_))
  show mq 72 27 [some (.ref 51), some (.int (nI m)), some (.int (nI o)), some (.int (nI g)), some (.int (nI b))] [] (hS n u I5 A5 J B mk sn L xs X) _
  refine x_ret (pc := 27) rfl rfl ?_
  rw [b8_nI, b8_nI] at h5
  exact kk _ _ (Fr_cons (Fr_cons (Fr_cons (Fr_cons (Fr_cons (Fr_refl _ _) f1 (by decide)) f2 (by decide)) f3 (by decide)) f4 (by decide)) f5 (by decide)) (Fr_cons (Fr_cons (Fr_cons (Fr_cons (Fr_cons (Fr_refl _ _) g1 (by decide)) g2 (by decide)) g3 (by decide)) g4 (by decide)) g5 (by decide)) h5
set_option maxRecDepth 100000 in
set_option maxHeartbeats 4000000 in
theorem k_66_2 {s : Nat} {p q : Int32} {l : List R5} (h : DK (A 0) D) (hs : s < 16) (hl1 : 1 ≤ l.length) (hl4 : l.length ≤ 4) (hB : BT 2 I A l p q) {Q : mO × mHp → Prop} (kk : ∀ I' A', Fr [14] I I' → Fr [3] A A' → Pg 14 3 128 I' A' (eBt (nI (bB D s)) p q l) → Q (.inl none, hS n u I' A' J B mk sn L xs X)) : mq 66 0 [some (.ref 1), some (.int (nI s)), some (.ref 53)] [] (hS n u I A J B mk sn L xs X) Q := by
  refine x_al1 (pc := 0) rfl rfl ?_
  refine g_1_7 (pc := 1) rfl rfl ?_
  refine x_k (pc := 4) rfl rfl rfl ⟨Nat.le_of_ble_eq_true rfl, Nat.le_of_ble_eq_true rfl, Nat.le_of_ble_eq_true rfl⟩ rfl (k_25_49 (I := I) (A := A) (fun I1 A1 f1 g1 h1 => ?_))
  show mq 66 7 [some (.ref 1), some (.int (nI s)), some (.ref 53)] [] (hS n u I1 A1 J B mk sn L xs X) _
  refine x_al1 (pc := 7) rfl rfl ?_
  refine x_al1 (pc := 8) rfl rfl ?_
  refine g_1_7 (pc := 9) rfl rfl ?_
  refine x_al1 (pc := 12) rfl rfl ?_
  refine g_1_0 (pc := 13) rfl rfl ?_
  refine x_il1 (pc := 16) rfl rfl ?_
  refine x_k (pc := 17) rfl rfl rfl ⟨Nat.le_of_ble_eq_true rfl, Nat.le_of_ble_eq_true rfl, Nat.le_of_ble_eq_true rfl⟩ rfl (mq_k (c_22 (I := I1) (A := A1) (D := D) (by rw [g1 0 (by decide)]; exact h) hs) ?_)
  show mq 66 20 [some (.ref 1), some (.int (nI s)), some (.ref 53)] [.int (nI (bB D s)), .ref 49, .ref 53] (hS n u I1 A1 J B mk sn L xs X) _
  refine x_k (pc := 20) rfl rfl rfl ⟨Nat.le_of_ble_eq_true rfl, Nat.le_of_ble_eq_true rfl, Nat.le_of_ble_eq_true rfl⟩ rfl (k_67_2 (I := I1) (A := A1) (t := []) (l := l) (p := p) (s := q) hl1 hl4 (BT_fr hB f1 g1) h1 (by simp) (fun I2 A2 f2 g2 h2 => ?_))
  show mq 66 23 [some (.ref 1), some (.int (nI s)), some (.ref 53)] [] (hS n u I2 A2 J B mk sn L xs X) _
  refine x_ret (pc := 23) rfl rfl ?_
  exact kk _ _ (Fr_cons (Fr_cons (Fr_refl _ _) f1 (by decide)) f2 (by decide)) (Fr_cons (Fr_cons (Fr_refl _ _) g1 (by decide)) g2 (by decide)) h2
set_option maxRecDepth 100000 in
set_option maxHeartbeats 4000000 in
theorem k_66_3 {s : Nat} {p q : Int32} {l : List R5} (h : DK (A 0) D) (hs : s < 16) (hl1 : 1 ≤ l.length) (hl4 : l.length ≤ 4) (hB : BT 3 I A l p q) {Q : mO × mHp → Prop} (kk : ∀ I' A', Fr [14] I I' → Fr [3] A A' → Pg 14 3 128 I' A' (eBt (nI (bB D s)) p q l) → Q (.inl none, hS n u I' A' J B mk sn L xs X)) : mq 66 0 [some (.ref 1), some (.int (nI s)), some (.ref 60)] [] (hS n u I A J B mk sn L xs X) Q := by
  refine x_al1 (pc := 0) rfl rfl ?_
  refine g_1_7 (pc := 1) rfl rfl ?_
  refine x_k (pc := 4) rfl rfl rfl ⟨Nat.le_of_ble_eq_true rfl, Nat.le_of_ble_eq_true rfl, Nat.le_of_ble_eq_true rfl⟩ rfl (k_25_49 (I := I) (A := A) (fun I1 A1 f1 g1 h1 => ?_))
  show mq 66 7 [some (.ref 1), some (.int (nI s)), some (.ref 60)] [] (hS n u I1 A1 J B mk sn L xs X) _
  refine x_al1 (pc := 7) rfl rfl ?_
  refine x_al1 (pc := 8) rfl rfl ?_
  refine g_1_7 (pc := 9) rfl rfl ?_
  refine x_al1 (pc := 12) rfl rfl ?_
  refine g_1_0 (pc := 13) rfl rfl ?_
  refine x_il1 (pc := 16) rfl rfl ?_
  refine x_k (pc := 17) rfl rfl rfl ⟨Nat.le_of_ble_eq_true rfl, Nat.le_of_ble_eq_true rfl, Nat.le_of_ble_eq_true rfl⟩ rfl (mq_k (c_22 (I := I1) (A := A1) (D := D) (by rw [g1 0 (by decide)]; exact h) hs) ?_)
  show mq 66 20 [some (.ref 1), some (.int (nI s)), some (.ref 60)] [.int (nI (bB D s)), .ref 49, .ref 60] (hS n u I1 A1 J B mk sn L xs X) _
  refine x_k (pc := 20) rfl rfl rfl ⟨Nat.le_of_ble_eq_true rfl, Nat.le_of_ble_eq_true rfl, Nat.le_of_ble_eq_true rfl⟩ rfl (k_67_3 (I := I1) (A := A1) (t := []) (l := l) (p := p) (s := q) hl1 hl4 (BT_fr hB f1 g1) h1 (by simp) (fun I2 A2 f2 g2 h2 => ?_))
  show mq 66 23 [some (.ref 1), some (.int (nI s)), some (.ref 60)] [] (hS n u I2 A2 J B mk sn L xs X) _
  refine x_ret (pc := 23) rfl rfl ?_
  exact kk _ _ (Fr_cons (Fr_cons (Fr_refl _ _) f1 (by decide)) f2 (by decide)) (Fr_cons (Fr_cons (Fr_refl _ _) g1 (by decide)) g2 (by decide)) h2
set_option maxRecDepth 100000 in
set_option maxHeartbeats 4000000 in
theorem k_132 {m o g b : Nat} (hm : m < 2 ^ 31) (hb : b < 2 ^ 31) {Q : mO × mHp → Prop} (kk : ∀ I' A', Fr [68] I I' → Fr [54] A A' → Tp I' A' (hdr m o g b) → Q (.inl none, hS n u I' A' J B mk sn L xs X)) : mq 132 0 [some (.ref 67), some (.int (nI m)), some (.int (nI o)), some (.int (nI g)), some (.int (nI b)), none] [] (hS n u I A J B mk sn L xs X) Q := by
  refine x_al1 (pc := 0) rfl rfl ?_
  refine x_const (pc := 1) (pc' := 2) (.int (nI 0)) rfl rfl rfl rfl ?_
  refine p_67_13 (pc := 2) rfl rfl ?_
  refine x_al1 (pc := 5) rfl rfl ?_
  refine x_il1 (pc := 6) rfl rfl ?_
  refine x_const (pc := 7) (pc' := 9) (.int (nI 8)) rfl rfl rfl rfl ?_
  refine x_ishrV (pc := 9) (v := nI (m / 2 ^ 8)) rfl (pk_shrN hm _ 8 (by decide)) ?_
  refine x_k (pc := 10) rfl rfl rfl ⟨Nat.le_of_ble_eq_true rfl, Nat.le_of_ble_eq_true rfl, Nat.le_of_ble_eq_true rfl⟩ rfl (k_128 (I := va_up I 68 (nI 0)) (A := A) (x := nI (m / 2 ^ 8)) (l := []) (⟨rfl, fun j hj => absurd hj (Nat.not_lt_zero j)⟩ : Tp (va_up I 68 (nI 0)) A []) (by simp) (fun I1 A1 f1 g1 h1 => ?_))
  show mq 132 13 [some (.ref 67), some (.int (nI m)), some (.int (nI o)), some (.int (nI g)), some (.int (nI b)), none] [] (hS n u I1 A1 J B mk sn L xs X) _
  refine x_al1 (pc := 13) rfl rfl ?_
  refine x_il1 (pc := 14) rfl rfl ?_
  refine x_k (pc := 15) rfl rfl rfl ⟨Nat.le_of_ble_eq_true rfl, Nat.le_of_ble_eq_true rfl, Nat.le_of_ble_eq_true rfl⟩ rfl (k_128 (I := I1) (A := A1) (x := nI m) (l := [] ++ [b8 (nI (m / 2 ^ 8))]) h1 (by simp) (fun I2 A2 f2 g2 h2 => ?_))
  show mq 132 18 [some (.ref 67), some (.int (nI m)), some (.int (nI o)), some (.int (nI g)), some (.int (nI b)), none] [] (hS n u I2 A2 J B mk sn L xs X) _
  refine x_al1 (pc := 18) rfl rfl ?_
  refine x_il1 (pc := 19) rfl rfl ?_
  refine x_k (pc := 20) rfl rfl rfl ⟨Nat.le_of_ble_eq_true rfl, Nat.le_of_ble_eq_true rfl, Nat.le_of_ble_eq_true rfl⟩ rfl (k_128 (I := I2) (A := A2) (x := nI o) (l := [] ++ [b8 (nI (m / 2 ^ 8))] ++ [b8 (nI m)]) h2 (by simp) (fun I3 A3 f3 g3 h3 => ?_))
  show mq 132 23 [some (.ref 67), some (.int (nI m)), some (.int (nI o)), some (.int (nI g)), some (.int (nI b)), none] [] (hS n u I3 A3 J B mk sn L xs X) _
  refine x_al1 (pc := 23) rfl rfl ?_
  refine x_il1 (pc := 24) rfl rfl ?_
  refine x_k (pc := 25) rfl rfl rfl ⟨Nat.le_of_ble_eq_true rfl, Nat.le_of_ble_eq_true rfl, Nat.le_of_ble_eq_true rfl⟩ rfl (k_128 (I := I3) (A := A3) (x := nI g) (l := [] ++ [b8 (nI (m / 2 ^ 8))] ++ [b8 (nI m)] ++ [b8 (nI o)]) h3 (by simp) (fun I4 A4 f4 g4 h4 => ?_))
  show mq 132 28 [some (.ref 67), some (.int (nI m)), some (.int (nI o)), some (.int (nI g)), some (.int (nI b)), none] [] (hS n u I4 A4 J B mk sn L xs X) _
  refine x_const (pc := 28) (pc' := 30) (.int (nI 24)) rfl rfl rfl rfl ?_
  refine x_is2 (pc := 30) (ml' := [some (.ref 67), some (.int (nI m)), some (.int (nI o)), some (.int (nI g)), some (.int (nI b)), some (.int (nI 24))]) rfl rfl ?_
  refine x_il2 (pc := 32) rfl rfl ?_
  refine x_ifN_lt (pc := 34) (t := 52) rfl rfl (by omega) ?_
  refine x_al1 (pc := 37) rfl rfl ?_
  refine x_il2 (pc := 38) rfl rfl ?_
  refine x_il2 (pc := 40) rfl rfl ?_
  refine x_ishrV (pc := 42) (v := nI (b / 2 ^ 24)) rfl (pk_shrN hb _ 24 (by decide)) ?_
  refine x_k (pc := 43) rfl rfl rfl ⟨Nat.le_of_ble_eq_true rfl, Nat.le_of_ble_eq_true rfl, Nat.le_of_ble_eq_true rfl⟩ rfl (k_128 (I := I4) (A := A4) (x := nI (b / 2 ^ 24)) (l := [] ++ [b8 (nI (m / 2 ^ 8))] ++ [b8 (nI m)] ++ [b8 (nI o)] ++ [b8 (nI g)]) h4 (by simp) (fun I5 A5 f5 g5 h5 => ?_))
  show mq 132 46 [some (.ref 67), some (.int (nI m)), some (.int (nI o)), some (.int (nI g)), some (.int (nI b)), some (.int (nI 24))] [] (hS n u I5 A5 J B mk sn L xs X) _
  refine x_iincV (pc := 46) (v := nI 16) (ml' := [some (.ref 67), some (.int (nI m)), some (.int (nI o)), some (.int (nI g)), some (.int (nI b)), some (.int (nI 16))]) rfl rfl (by decide) rfl ?_
  refine x_step (pc := 49) (pc' := 32) rfl rfl rfl rfl ?_
  refine x_il2 (pc := 32) rfl rfl ?_
  refine x_ifN_lt (pc := 34) (t := 52) rfl rfl (by omega) ?_
  refine x_al1 (pc := 37) rfl rfl ?_
  refine x_il2 (pc := 38) rfl rfl ?_
  refine x_il2 (pc := 40) rfl rfl ?_
  refine x_ishrV (pc := 42) (v := nI (b / 2 ^ 16)) rfl (pk_shrN hb _ 16 (by decide)) ?_
  refine x_k (pc := 43) rfl rfl rfl ⟨Nat.le_of_ble_eq_true rfl, Nat.le_of_ble_eq_true rfl, Nat.le_of_ble_eq_true rfl⟩ rfl (k_128 (I := I5) (A := A5) (x := nI (b / 2 ^ 16)) (l := [] ++ [b8 (nI (m / 2 ^ 8))] ++ [b8 (nI m)] ++ [b8 (nI o)] ++ [b8 (nI g)] ++ [b8 (nI (b / 2 ^ 24))]) h5 (by simp) (fun I6 A6 f6 g6 h6 => ?_))
  show mq 132 46 [some (.ref 67), some (.int (nI m)), some (.int (nI o)), some (.int (nI g)), some (.int (nI b)), some (.int (nI 16))] [] (hS n u I6 A6 J B mk sn L xs X) _
  refine x_iincV (pc := 46) (v := nI 8) (ml' := [some (.ref 67), some (.int (nI m)), some (.int (nI o)), some (.int (nI g)), some (.int (nI b)), some (.int (nI 8))]) rfl rfl (by decide) rfl ?_
  refine x_step (pc := 49) (pc' := 32) rfl rfl rfl rfl ?_
  refine x_il2 (pc := 32) rfl rfl ?_
  refine x_ifN_lt (pc := 34) (t := 52) rfl rfl (by omega) ?_
  refine x_al1 (pc := 37) rfl rfl ?_
  refine x_il2 (pc := 38) rfl rfl ?_
  refine x_il2 (pc := 40) rfl rfl ?_
  refine x_ishrV (pc := 42) (v := nI (b / 2 ^ 8)) rfl (pk_shrN hb _ 8 (by decide)) ?_
  refine x_k (pc := 43) rfl rfl rfl ⟨Nat.le_of_ble_eq_true rfl, Nat.le_of_ble_eq_true rfl, Nat.le_of_ble_eq_true rfl⟩ rfl (k_128 (I := I6) (A := A6) (x := nI (b / 2 ^ 8)) (l := [] ++ [b8 (nI (m / 2 ^ 8))] ++ [b8 (nI m)] ++ [b8 (nI o)] ++ [b8 (nI g)] ++ [b8 (nI (b / 2 ^ 24))] ++ [b8 (nI (b / 2 ^ 16))]) h6 (by simp) (fun I7 A7 f7 g7 h7 => ?_))
  show mq 132 46 [some (.ref 67), some (.int (nI m)), some (.int (nI o)), some (.int (nI g)), some (.int (nI b)), some (.int (nI 8))] [] (hS n u I7 A7 J B mk sn L xs X) _
  refine x_iincV (pc := 46) (v := nI 0) (ml' := [some (.ref 67), some (.int (nI m)), some (.int (nI o)), some (.int (nI g)), some (.int (nI b)), some (.int (nI 0))]) rfl rfl (by decide) rfl ?_
  refine x_step (pc := 49) (pc' := 32) rfl rfl rfl rfl ?_
  refine x_il2 (pc := 32) rfl rfl ?_
  refine x_ifN_lt (pc := 34) (t := 52) rfl rfl (by omega) ?_
  refine x_al1 (pc := 37) rfl rfl ?_
  refine x_il2 (pc := 38) rfl rfl ?_
  refine x_il2 (pc := 40) rfl rfl ?_
  refine x_ishrV (pc := 42) (v := nI (b / 2 ^ 0)) rfl (pk_shrN hb _ 0 (by decide)) ?_
  refine x_k (pc := 43) rfl rfl rfl ⟨Nat.le_of_ble_eq_true rfl, Nat.le_of_ble_eq_true rfl, Nat.le_of_ble_eq_true rfl⟩ rfl (k_128 (I := I7) (A := A7) (x := nI (b / 2 ^ 0)) (l := [] ++ [b8 (nI (m / 2 ^ 8))] ++ [b8 (nI m)] ++ [b8 (nI o)] ++ [b8 (nI g)] ++ [b8 (nI (b / 2 ^ 24))] ++ [b8 (nI (b / 2 ^ 16))] ++ [b8 (nI (b / 2 ^ 8))]) h7 (by simp) (fun I8 A8 f8 g8 h8 => ?_))
  show mq 132 46 [some (.ref 67), some (.int (nI m)), some (.int (nI o)), some (.int (nI g)), some (.int (nI b)), some (.int (nI 0))] [] (hS n u I8 A8 J B mk sn L xs X) _
  refine x_iincV (pc := 46) (v := (-8)) (ml' := [some (.ref 67), some (.int (nI m)), some (.int (nI o)), some (.int (nI g)), some (.int (nI b)), some (.int (-8))]) rfl rfl (by decide) rfl ?_
  refine x_step (pc := 49) (pc' := 32) rfl rfl rfl rfl ?_
  refine x_il2 (pc := 32) rfl rfl ?_
  refine x_if_lt (pc := 34) (t := 52) rfl rfl rfl (fun _ => ?_) (fun c => absurd (by decide) c)
  refine x_ret (pc := 52) rfl rfl ?_
  have ev : [] ++ [b8 (nI (m / 2 ^ 8))] ++ [b8 (nI m)] ++ [b8 (nI o)] ++ [b8 (nI g)] ++ [b8 (nI (b / 2 ^ 24))] ++ [b8 (nI (b / 2 ^ 16))] ++ [b8 (nI (b / 2 ^ 8))] ++ [b8 (nI (b / 2 ^ 0))] = hdr m o g b := by
    simp only [b8_nI, List.append_assoc, List.cons_append, List.nil_append]
    unfold hdr
    rw [Nat.pow_zero, Nat.div_one, Nat.div_one]
  rw [ev] at h8
  exact kk _ _ (Fr_cons (Fr_cons (Fr_cons (Fr_cons (Fr_cons (Fr_cons (Fr_cons (Fr_cons (Fr_u (Fr_refl _ _) (by decide)) f1 (by decide)) f2 (by decide)) f3 (by decide)) f4 (by decide)) f5 (by decide)) f6 (by decide)) f7 (by decide)) f8 (by decide)) (Fr_cons (Fr_cons (Fr_cons (Fr_cons (Fr_cons (Fr_cons (Fr_cons (Fr_cons (Fr_refl _ _) g1 (by decide)) g2 (by decide)) g3 (by decide)) g4 (by decide)) g5 (by decide)) g6 (by decide)) g7 (by decide)) g8 (by decide)) h8
end S47
