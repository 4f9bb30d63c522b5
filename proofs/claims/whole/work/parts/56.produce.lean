/-! produce: the class. -/
/-- a batch's records -/
def BC (b : Nat) (I : Nat → Int32) (A : Nat → Nat → Int32) (l : List R5) : Prop := I (22 + 3 * b) = nI l.length ∧ ∀ k, k < l.length → A (10 + 5 * b) k = (gR l k).1 ∧ A (11 + 5 * b) k = (gR l k).2.1 ∧ A (12 + 5 * b) k = (gR l k).2.2.1 ∧ A (13 + 5 * b) k = (gR l k).2.2.2.1 ∧ A (14 + 5 * b) k = (gR l k).2.2.2.2
theorem nI_m1lt {p : Nat} (h : p < 8) : ¬ nI p < -1 := by
  intro e
  have h1 : ∀ r : Fin 8, ¬ nI r.val < -1 := by decide
  exact h1 ⟨p, h⟩ e
theorem kD_mk {mk mk' : Nat} {S : DS} {I : Nat → Int32} {A : Nat → Nat → Int32} (h : kD mk S I A) (ho : dO S = false) : kD mk' S I A := ⟨h.1, h.2.1, fun q => by rw [ho] at q; exact Bool.noConfusion q⟩
theorem kD_1 {mk : Nat} {S : DS} {I : Nat → Int32} {A : Nat → Nat → Int32} (h : kD mk S I A) (ho : dO S = false) : I 0 = nI 1 := by
  rw [h.1.1, ho]
  rfl
theorem kD_0 {mk : Nat} {S : DS} {I : Nat → Int32} {A : Nat → Nat → Int32} (h : kD mk S I A) (ho : dO S = true) : I 0 = nI 0 := by
  rw [h.1.1, ho]
  rfl
section S56
variable {n u : Nat} {I : Nat → Int32} {A : Nat → Nat → Int32} {J : Int64} {B : Nat → Int64} {mk sn L : Nat} {xs : Nat → Int32} {X : Nat → mC} {D : Nat → Nat} 
set_option maxRecDepth 100000 in
set_option maxHeartbeats 4000000 in
theorem k_59_53  {Q : mO × mHp → Prop} (kk : Q (.inl (some (.ref 53)), hS n u (va_up I 31 (nI 0)) A J B 60 53 L xs X)) : mq 59 0 [some (.ref 1), none] [] (hS n u I A J B 53 60 L xs X) Q := by
  refine x_al1 (pc := 0) rfl rfl ?_
  refine g_1_9 (pc := 1) rfl rfl ?_
  refine x_as1 (pc := 4) (ml' := [some (.ref 1), some (.ref 53)]) rfl rfl ?_
  refine x_al1 (pc := 5) rfl rfl ?_
  refine x_al1 (pc := 6) rfl rfl ?_
  refine g_1_10 (pc := 7) rfl rfl ?_
  refine p_1_9 (pc := 10) rfl rfl ?_
  refine x_al1 (pc := 13) rfl rfl ?_
  refine g_1_9 (pc := 14) rfl rfl ?_
  refine g_60_0 (pc := 17) rfl rfl ?_
  refine x_const (pc := 20) (pc' := 21) (.int (nI 0)) rfl rfl rfl rfl ?_
  refine p_61_5 (pc := 21) rfl rfl ?_
  refine x_al1 (pc := 24) rfl rfl ?_
  refine x_al1 (pc := 25) rfl rfl ?_
  refine p_1_10 (pc := 26) rfl rfl ?_
  refine x_al1 (pc := 29) rfl rfl ?_
  refine x_ret (pc := 30) rfl rfl ?_
  exact kk
set_option maxRecDepth 100000 in
set_option maxHeartbeats 4000000 in
theorem k_59_60  {Q : mO × mHp → Prop} (kk : Q (.inl (some (.ref 60)), hS n u (va_up I 28 (nI 0)) A J B 53 60 L xs X)) : mq 59 0 [some (.ref 1), none] [] (hS n u I A J B 60 53 L xs X) Q := by
  refine x_al1 (pc := 0) rfl rfl ?_
  refine g_1_9 (pc := 1) rfl rfl ?_
  refine x_as1 (pc := 4) (ml' := [some (.ref 1), some (.ref 60)]) rfl rfl ?_
  refine x_al1 (pc := 5) rfl rfl ?_
  refine x_al1 (pc := 6) rfl rfl ?_
  refine g_1_10 (pc := 7) rfl rfl ?_
  refine p_1_9 (pc := 10) rfl rfl ?_
  refine x_al1 (pc := 13) rfl rfl ?_
  refine g_1_9 (pc := 14) rfl rfl ?_
  refine g_53_0 (pc := 17) rfl rfl ?_
  refine x_const (pc := 20) (pc' := 21) (.int (nI 0)) rfl rfl rfl rfl ?_
  refine p_54_5 (pc := 21) rfl rfl ?_
  refine x_al1 (pc := 24) rfl rfl ?_
  refine x_al1 (pc := 25) rfl rfl ?_
  refine p_1_10 (pc := 26) rfl rfl ?_
  refine x_al1 (pc := 29) rfl rfl ?_
  refine x_ret (pc := 30) rfl rfl ?_
  exact kk
set_option maxRecDepth 100000 in
set_option maxHeartbeats 4000000 in
theorem k_61d_0_53 {p m c : Nat} {q : Int32} (hp : I 26 = nI p) (hp8 : p < 8) (hq : I 27 = q) (hc : I 28 = nI c) (hc4 : c ≤ 4) (hm : A 32 p = nI m) (hm5 : m < 5) (hns : ¬ (¬ m = 0 ∧ A 31 p = q ∧ m = c)) {Q : mO × mHp → Prop} (kk : Q (.inl (some (.int (-1))), hS n u I A J B mk sn L xs X)) : mq 61 0 [some (.ref 13), some (.ref 53), none, none] [] (hS n u I A J B mk sn L xs X) Q := by
  refine x_al1 (pc := 0) rfl rfl ?_
  refine g_53_1 (pc := 1) (v := nI p) rfl rfl hp ?_
  refine x_is1 (pc := 4) (ml' := [some (.ref 13), some (.ref 53), some (.int (nI p)), none]) rfl rfl ?_
  refine x_al1 (pc := 5) rfl rfl ?_
  refine x_il1 (pc := 6) rfl rfl ?_
  refine x_k (pc := 7) rfl rfl rfl ⟨Nat.le_of_ble_eq_true rfl, Nat.le_of_ble_eq_true rfl, Nat.le_of_ble_eq_true rfl⟩ rfl (k_53_0 (I := I) (A := A) hp8 hm hm5 ?_)
  show mq 61 10 [some (.ref 13), some (.ref 53), some (.int (nI p)), none] [.int (nI (if m = 0 then 0 else 1))] (hS n u I A J B mk sn L xs X) _
  refine x_ifN_eq (pc := 10) (t := 46) rfl rfl (by split <;> omega) (fun c10 => ?_) (fun c10 => ?_)
  · refine x_const (pc := 46) (pc' := 47) (.int (nI 0)) rfl rfl rfl rfl ?_
    refine x_is1 (pc := 47) (ml' := [some (.ref 13), some (.ref 53), some (.int (nI p)), some (.int (nI 0))]) rfl rfl ?_
    refine x_il1 (pc := 48) rfl rfl ?_
    refine x_ifN_eq (pc := 49) (t := 61) rfl rfl (by decide) (fun _ => ?_) (fun c => absurd c (by decide))
    refine x_const (pc := 61) (pc' := 62) (.int (-1)) rfl rfl rfl rfl ?_
    refine x_ret (pc := 62) rfl rfl ?_
    exact kk
  · refine x_al1 (pc := 13) rfl rfl ?_
    refine g_13_2 (pc := 14) rfl rfl ?_
    refine x_il1 (pc := 17) rfl rfl ?_
    refine al_15 (pc := 18) (q := p) (v := (A 31) p) rfl rfl (by omega) rfl ?_
    refine x_al1 (pc := 19) rfl rfl ?_
    refine g_53_2 (pc := 20) (v := q) rfl rfl hq ?_
    refine x_cmp_ne (pc := 23) (t := 46) rfl rfl rfl (fun c23 => ?_) (fun c23 => ?_)
    · refine x_const (pc := 46) (pc' := 47) (.int (nI 0)) rfl rfl rfl rfl ?_
      refine x_is1 (pc := 47) (ml' := [some (.ref 13), some (.ref 53), some (.int (nI p)), some (.int (nI 0))]) rfl rfl ?_
      refine x_il1 (pc := 48) rfl rfl ?_
      refine x_ifN_eq (pc := 49) (t := 61) rfl rfl (by decide) (fun _ => ?_) (fun c => absurd c (by decide))
      refine x_const (pc := 61) (pc' := 62) (.int (-1)) rfl rfl rfl rfl ?_
      refine x_ret (pc := 62) rfl rfl ?_
      exact kk
    · refine x_al1 (pc := 26) rfl rfl ?_
      refine g_13_3 (pc := 27) rfl rfl ?_
      refine x_il1 (pc := 30) rfl rfl ?_
      refine al_16 (pc := 31) (q := p) (v := nI m) rfl rfl (by omega) hm ?_
      refine x_al1 (pc := 32) rfl rfl ?_
      refine g_53_0 (pc := 33) rfl rfl ?_
      refine g_54_5 (pc := 36) (v := nI c) rfl rfl hc ?_
      refine x_cmpN_ne (pc := 39) (t := 46) rfl rfl (by omega) (by omega) (fun c39 => ?_) (fun c39 => ?_)
      · refine x_const (pc := 46) (pc' := 47) (.int (nI 0)) rfl rfl rfl rfl ?_
        refine x_is1 (pc := 47) (ml' := [some (.ref 13), some (.ref 53), some (.int (nI p)), some (.int (nI 0))]) rfl rfl ?_
        refine x_il1 (pc := 48) rfl rfl ?_
        refine x_ifN_eq (pc := 49) (t := 61) rfl rfl (by decide) (fun _ => ?_) (fun c => absurd c (by decide))
        refine x_const (pc := 61) (pc' := 62) (.int (-1)) rfl rfl rfl rfl ?_
        refine x_ret (pc := 62) rfl rfl ?_
        exact kk
      · refine absurd ⟨fun e => c10 (if_pos e), ?_, ?_⟩ hns
        · exact c23
        · exact c39
set_option maxRecDepth 100000 in
set_option maxHeartbeats 4000000 in
theorem k_61s_0_53 {p m c : Nat} {q : Int32} (hp : I 26 = nI p) (hp8 : p < 8) (hq : I 27 = q) (hc : I 28 = nI c) (hc4 : c ≤ 4) (hm : A 32 p = nI m) (hm5 : m < 5) (hs1 : ¬ m = 0) (hs2 : A 31 p = q) (hs3 : m = c) {Q : mO × mHp → Prop} (kk : Q (.inl (some (.int (A 33 p))), hS n u I A J B mk sn L xs X)) : mq 61 0 [some (.ref 13), some (.ref 53), none, none] [] (hS n u I A J B mk sn L xs X) Q := by
  refine x_al1 (pc := 0) rfl rfl ?_
  refine g_53_1 (pc := 1) (v := nI p) rfl rfl hp ?_
  refine x_is1 (pc := 4) (ml' := [some (.ref 13), some (.ref 53), some (.int (nI p)), none]) rfl rfl ?_
  refine x_al1 (pc := 5) rfl rfl ?_
  refine x_il1 (pc := 6) rfl rfl ?_
  refine x_k (pc := 7) rfl rfl rfl ⟨Nat.le_of_ble_eq_true rfl, Nat.le_of_ble_eq_true rfl, Nat.le_of_ble_eq_true rfl⟩ rfl (k_53_0 (I := I) (A := A) hp8 hm hm5 ?_)
  show mq 61 10 [some (.ref 13), some (.ref 53), some (.int (nI p)), none] [.int (nI (if m = 0 then 0 else 1))] (hS n u I A J B mk sn L xs X) _
  refine x_ifN_eq (pc := 10) (t := 46) rfl rfl (by split <;> omega) (fun c10 => ?_) (fun c10 => ?_)
  · rw [if_neg hs1] at c10
    exact absurd c10 (by decide)
  · refine x_al1 (pc := 13) rfl rfl ?_
    refine g_13_2 (pc := 14) rfl rfl ?_
    refine x_il1 (pc := 17) rfl rfl ?_
    refine al_15 (pc := 18) (q := p) (v := (A 31) p) rfl rfl (by omega) rfl ?_
    refine x_al1 (pc := 19) rfl rfl ?_
    refine g_53_2 (pc := 20) (v := q) rfl rfl hq ?_
    refine x_cmp_ne (pc := 23) (t := 46) rfl rfl rfl (fun c23 => ?_) (fun c23 => ?_)
    · exact absurd hs2 c23
    · refine x_al1 (pc := 26) rfl rfl ?_
      refine g_13_3 (pc := 27) rfl rfl ?_
      refine x_il1 (pc := 30) rfl rfl ?_
      refine al_16 (pc := 31) (q := p) (v := nI m) rfl rfl (by omega) hm ?_
      refine x_al1 (pc := 32) rfl rfl ?_
      refine g_53_0 (pc := 33) rfl rfl ?_
      refine g_54_5 (pc := 36) (v := nI c) rfl rfl hc ?_
      refine x_cmpN_ne (pc := 39) (t := 46) rfl rfl (by omega) (by omega) (fun c39 => ?_) (fun c39 => ?_)
      · exact absurd hs3 c39
      · refine x_const (pc := 42) (pc' := 43) (.int (nI 1)) rfl rfl rfl rfl ?_
        refine x_step (pc := 43) (pc' := 47) rfl rfl rfl rfl ?_
        refine x_is1 (pc := 47) (ml' := [some (.ref 13), some (.ref 53), some (.int (nI p)), some (.int (nI 1))]) rfl rfl ?_
        refine x_il1 (pc := 48) rfl rfl ?_
        refine x_ifN_eq (pc := 49) (t := 61) rfl rfl (by decide) (fun c => absurd c (by decide)) (fun _ => ?_)
        refine x_al1 (pc := 52) rfl rfl ?_
        refine g_13_4 (pc := 53) rfl rfl ?_
        refine x_il1 (pc := 56) rfl rfl ?_
        refine al_17 (pc := 57) (q := p) (v := (A 33) p) rfl rfl (by omega) rfl ?_
        refine x_step (pc := 58) (pc' := 62) rfl rfl rfl rfl ?_
        refine x_ret (pc := 62) rfl rfl ?_
        exact kk
set_option maxRecDepth 100000 in
set_option maxHeartbeats 4000000 in
theorem k_61n_0_53 (hp : I 26 = nI 255) {Q : mO × mHp → Prop} (kk : Q (.inl (some (.int (-1))), hS n u I A J B mk sn L xs X)) : mq 61 0 [some (.ref 13), some (.ref 53), none, none] [] (hS n u I A J B mk sn L xs X) Q := by
  refine x_al1 (pc := 0) rfl rfl ?_
  refine g_53_1 (pc := 1) (v := nI 255) rfl rfl hp ?_
  refine x_is1 (pc := 4) (ml' := [some (.ref 13), some (.ref 53), some (.int (nI 255)), none]) rfl rfl ?_
  refine x_al1 (pc := 5) rfl rfl ?_
  refine x_il1 (pc := 6) rfl rfl ?_
  refine x_k (pc := 7) rfl rfl rfl ⟨Nat.le_of_ble_eq_true rfl, Nat.le_of_ble_eq_true rfl, Nat.le_of_ble_eq_true rfl⟩ rfl (k_53b_0 (I := I) (A := A) (Or.inr (by decide)) ?_)
  show mq 61 10 [some (.ref 13), some (.ref 53), some (.int (nI 255)), none] [.int (nI 0)] (hS n u I A J B mk sn L xs X) _
  refine x_ifN_eq (pc := 10) (t := 46) rfl rfl (by decide) (fun _ => ?_) (fun c => absurd c (by decide))
  refine x_const (pc := 46) (pc' := 47) (.int (nI 0)) rfl rfl rfl rfl ?_
  refine x_is1 (pc := 47) (ml' := [some (.ref 13), some (.ref 53), some (.int (nI 255)), some (.int (nI 0))]) rfl rfl ?_
  refine x_il1 (pc := 48) rfl rfl ?_
  refine x_ifN_eq (pc := 49) (t := 61) rfl rfl (by decide) (fun _ => ?_) (fun c => absurd c (by decide))
  refine x_const (pc := 61) (pc' := 62) (.int (-1)) rfl rfl rfl rfl ?_
  refine x_ret (pc := 62) rfl rfl ?_
  exact kk
set_option maxRecDepth 100000 in
set_option maxHeartbeats 4000000 in
theorem k_62_0_53 {p m c : Nat} {q : Int32} (hp : I 26 = nI p) (hp8 : p < 8) (hq : I 27 = q) (hc : I 28 = nI c) (hc4 : c ≤ 4) (hm : A 32 p = nI m) (hm5 : m < 5) (hor : m = 0 ∨ A 31 p + nI m = q) {Q : mO × mHp → Prop} (kk : Q (.inl none, hS n u I A J B mk sn L xs X)) : mq 62 0 [some (.ref 1), some (.ref 13), some (.ref 53), none] [] (hS n u I A J B mk sn L xs X) Q := by
  refine x_al1 (pc := 0) rfl rfl ?_
  refine g_53_1 (pc := 1) (v := nI p) rfl rfl hp ?_
  refine x_is1 (pc := 4) (ml' := [some (.ref 1), some (.ref 13), some (.ref 53), some (.int (nI p))]) rfl rfl ?_
  refine x_al1 (pc := 5) rfl rfl ?_
  refine x_il1 (pc := 6) rfl rfl ?_
  refine x_k (pc := 7) rfl rfl rfl ⟨Nat.le_of_ble_eq_true rfl, Nat.le_of_ble_eq_true rfl, Nat.le_of_ble_eq_true rfl⟩ rfl (k_53_0 (I := I) (A := A) hp8 hm hm5 ?_)
  show mq 62 10 [some (.ref 1), some (.ref 13), some (.ref 53), some (.int (nI p))] [.int (nI (if m = 0 then 0 else 1))] (hS n u I A J B mk sn L xs X) _
  refine x_ifN_eq (pc := 10) (t := 44) rfl rfl (by split <;> omega) (fun c10 => ?_) (fun c10 => ?_)
  · refine x_ret (pc := 44) rfl rfl ?_
    exact kk
  · refine x_al1 (pc := 13) rfl rfl ?_
    refine g_13_2 (pc := 14) rfl rfl ?_
    refine x_il1 (pc := 17) rfl rfl ?_
    refine al_15 (pc := 18) (q := p) (v := (A 31) p) rfl rfl (by omega) rfl ?_
    refine x_al1 (pc := 19) rfl rfl ?_
    refine g_13_3 (pc := 20) rfl rfl ?_
    refine x_il1 (pc := 23) rfl rfl ?_
    refine al_16 (pc := 24) (q := p) (v := nI m) rfl rfl (by omega) hm ?_
    refine x_iadd (pc := 25) rfl rfl ?_
    refine x_al1 (pc := 26) rfl rfl ?_
    refine g_53_2 (pc := 27) (v := q) rfl rfl hq ?_
    refine x_cmp_eq (pc := 30) (t := 44) rfl rfl rfl (fun c30 => ?_) (fun c30 => ?_)
    · refine x_ret (pc := 44) rfl rfl ?_
      exact kk
    · rcases hor with h | h
      · exact absurd (if_pos h) c10
      · exact absurd h c30
set_option maxRecDepth 100000 in
set_option maxHeartbeats 4000000 in
theorem k_62x_0_53 {p m c : Nat} {q : Int32} (hp : I 26 = nI p) (hp8 : p < 8) (hq : I 27 = q) (hc : I 28 = nI c) (hc4 : c ≤ 4) (hm : A 32 p = nI m) (hm5 : m < 5) (hm0 : ¬ m = 0) (hor : ¬ A 31 p + nI m = q) (hn : 77 ≤ n ∧ n < 10000) (hu : u + 6 < 1000000) {Q : mO × mHp → Prop} (kk : Q (.inr n, hS (n + 1) (u + 6) I A J B mk sn L xs (va_up X n (.inr (11, []))))) : mq 62 0 [some (.ref 1), some (.ref 13), some (.ref 53), none] [] (hS n u I A J B mk sn L xs X) Q := by
  refine x_al1 (pc := 0) rfl rfl ?_
  refine g_53_1 (pc := 1) (v := nI p) rfl rfl hp ?_
  refine x_is1 (pc := 4) (ml' := [some (.ref 1), some (.ref 13), some (.ref 53), some (.int (nI p))]) rfl rfl ?_
  refine x_al1 (pc := 5) rfl rfl ?_
  refine x_il1 (pc := 6) rfl rfl ?_
  refine x_k (pc := 7) rfl rfl rfl ⟨Nat.le_of_ble_eq_true rfl, Nat.le_of_ble_eq_true rfl, Nat.le_of_ble_eq_true rfl⟩ rfl (k_53_0 (I := I) (A := A) hp8 hm hm5 ?_)
  show mq 62 10 [some (.ref 1), some (.ref 13), some (.ref 53), some (.int (nI p))] [.int (nI (if m = 0 then 0 else 1))] (hS n u I A J B mk sn L xs X) _
  refine x_ifN_eq (pc := 10) (t := 44) rfl rfl (by split <;> omega) (fun c10 => ?_) (fun c10 => ?_)
  · rw [if_neg hm0] at c10
    exact absurd c10 (by decide)
  · refine x_al1 (pc := 13) rfl rfl ?_
    refine g_13_2 (pc := 14) rfl rfl ?_
    refine x_il1 (pc := 17) rfl rfl ?_
    refine al_15 (pc := 18) (q := p) (v := (A 31) p) rfl rfl (by omega) rfl ?_
    refine x_al1 (pc := 19) rfl rfl ?_
    refine g_13_3 (pc := 20) rfl rfl ?_
    refine x_il1 (pc := 23) rfl rfl ?_
    refine al_16 (pc := 24) (q := p) (v := nI m) rfl rfl (by omega) hm ?_
    refine x_iadd (pc := 25) rfl rfl ?_
    refine x_al1 (pc := 26) rfl rfl ?_
    refine g_53_2 (pc := 27) (v := q) rfl rfl hq ?_
    refine x_cmp_eq (pc := 30) (t := 44) rfl rfl rfl (fun c30 => ?_) (fun c30 => ?_)
    · exact absurd c30 hor
    · refine x_thr (pc := 33) rfl rfl hn hu rfl ⟨Nat.le_of_ble_eq_true rfl, Nat.le_of_ble_eq_true rfl⟩ ?_
      exact kk
set_option maxRecDepth 100000 in
set_option maxHeartbeats 4000000 in
theorem k_62n_0_53 (hp : I 26 = nI 255) {Q : mO × mHp → Prop} (kk : Q (.inl none, hS n u I A J B mk sn L xs X)) : mq 62 0 [some (.ref 1), some (.ref 13), some (.ref 53), none] [] (hS n u I A J B mk sn L xs X) Q := by
  refine x_al1 (pc := 0) rfl rfl ?_
  refine g_53_1 (pc := 1) (v := nI 255) rfl rfl hp ?_
  refine x_is1 (pc := 4) (ml' := [some (.ref 1), some (.ref 13), some (.ref 53), some (.int (nI 255))]) rfl rfl ?_
  refine x_al1 (pc := 5) rfl rfl ?_
  refine x_il1 (pc := 6) rfl rfl ?_
  refine x_k (pc := 7) rfl rfl rfl ⟨Nat.le_of_ble_eq_true rfl, Nat.le_of_ble_eq_true rfl, Nat.le_of_ble_eq_true rfl⟩ rfl (k_53b_0 (I := I) (A := A) (Or.inr (by decide)) ?_)
  show mq 62 10 [some (.ref 1), some (.ref 13), some (.ref 53), some (.int (nI 255))] [.int (nI 0)] (hS n u I A J B mk sn L xs X) _
  refine x_ifN_eq (pc := 10) (t := 44) rfl rfl (by decide) (fun _ => ?_) (fun c => absurd c (by decide))
  refine x_ret (pc := 44) rfl rfl ?_
  exact kk
set_option maxRecDepth 100000 in
set_option maxHeartbeats 4000000 in
theorem k_61d_0_60 {p m c : Nat} {q : Int32} (hp : I 29 = nI p) (hp8 : p < 8) (hq : I 30 = q) (hc : I 31 = nI c) (hc4 : c ≤ 4) (hm : A 32 p = nI m) (hm5 : m < 5) (hns : ¬ (¬ m = 0 ∧ A 31 p = q ∧ m = c)) {Q : mO × mHp → Prop} (kk : Q (.inl (some (.int (-1))), hS n u I A J B mk sn L xs X)) : mq 61 0 [some (.ref 13), some (.ref 60), none, none] [] (hS n u I A J B mk sn L xs X) Q := by
  refine x_al1 (pc := 0) rfl rfl ?_
  refine g_60_1 (pc := 1) (v := nI p) rfl rfl hp ?_
  refine x_is1 (pc := 4) (ml' := [some (.ref 13), some (.ref 60), some (.int (nI p)), none]) rfl rfl ?_
  refine x_al1 (pc := 5) rfl rfl ?_
  refine x_il1 (pc := 6) rfl rfl ?_
  refine x_k (pc := 7) rfl rfl rfl ⟨Nat.le_of_ble_eq_true rfl, Nat.le_of_ble_eq_true rfl, Nat.le_of_ble_eq_true rfl⟩ rfl (k_53_0 (I := I) (A := A) hp8 hm hm5 ?_)
  show mq 61 10 [some (.ref 13), some (.ref 60), some (.int (nI p)), none] [.int (nI (if m = 0 then 0 else 1))] (hS n u I A J B mk sn L xs X) _
  refine x_ifN_eq (pc := 10) (t := 46) rfl rfl (by split <;> omega) (fun c10 => ?_) (fun c10 => ?_)
  · refine x_const (pc := 46) (pc' := 47) (.int (nI 0)) rfl rfl rfl rfl ?_
    refine x_is1 (pc := 47) (ml' := [some (.ref 13), some (.ref 60), some (.int (nI p)), some (.int (nI 0))]) rfl rfl ?_
    refine x_il1 (pc := 48) rfl rfl ?_
    refine x_ifN_eq (pc := 49) (t := 61) rfl rfl (by decide) (fun _ => ?_) (fun c => absurd c (by decide))
    refine x_const (pc := 61) (pc' := 62) (.int (-1)) rfl rfl rfl rfl ?_
    refine x_ret (pc := 62) rfl rfl ?_
    exact kk
  · refine x_al1 (pc := 13) rfl rfl ?_
    refine g_13_2 (pc := 14) rfl rfl ?_
    refine x_il1 (pc := 17) rfl rfl ?_
    refine al_15 (pc := 18) (q := p) (v := (A 31) p) rfl rfl (by omega) rfl ?_
    refine x_al1 (pc := 19) rfl rfl ?_
    refine g_60_2 (pc := 20) (v := q) rfl rfl hq ?_
    refine x_cmp_ne (pc := 23) (t := 46) rfl rfl rfl (fun c23 => ?_) (fun c23 => ?_)
    · refine x_const (pc := 46) (pc' := 47) (.int (nI 0)) rfl rfl rfl rfl ?_
      refine x_is1 (pc := 47) (ml' := [some (.ref 13), some (.ref 60), some (.int (nI p)), some (.int (nI 0))]) rfl rfl ?_
      refine x_il1 (pc := 48) rfl rfl ?_
      refine x_ifN_eq (pc := 49) (t := 61) rfl rfl (by decide) (fun _ => ?_) (fun c => absurd c (by decide))
      refine x_const (pc := 61) (pc' := 62) (.int (-1)) rfl rfl rfl rfl ?_
      refine x_ret (pc := 62) rfl rfl ?_
      exact kk
    · refine x_al1 (pc := 26) rfl rfl ?_
      refine g_13_3 (pc := 27) rfl rfl ?_
      refine x_il1 (pc := 30) rfl rfl ?_
      refine al_16 (pc := 31) (q := p) (v := nI m) rfl rfl (by omega) hm ?_
      refine x_al1 (pc := 32) rfl rfl ?_
      refine g_60_0 (pc := 33) rfl rfl ?_
      refine g_61_5 (pc := 36) (v := nI c) rfl rfl hc ?_
      refine x_cmpN_ne (pc := 39) (t := 46) rfl rfl (by omega) (by omega) (fun c39 => ?_) (fun c39 => ?_)
      · refine x_const (pc := 46) (pc' := 47) (.int (nI 0)) rfl rfl rfl rfl ?_
        refine x_is1 (pc := 47) (ml' := [some (.ref 13), some (.ref 60), some (.int (nI p)), some (.int (nI 0))]) rfl rfl ?_
        refine x_il1 (pc := 48) rfl rfl ?_
        refine x_ifN_eq (pc := 49) (t := 61) rfl rfl (by decide) (fun _ => ?_) (fun c => absurd c (by decide))
        refine x_const (pc := 61) (pc' := 62) (.int (-1)) rfl rfl rfl rfl ?_
        refine x_ret (pc := 62) rfl rfl ?_
        exact kk
      · refine absurd ⟨fun e => c10 (if_pos e), ?_, ?_⟩ hns
        · exact c23
        · exact c39
set_option maxRecDepth 100000 in
set_option maxHeartbeats 4000000 in
theorem k_61s_0_60 {p m c : Nat} {q : Int32} (hp : I 29 = nI p) (hp8 : p < 8) (hq : I 30 = q) (hc : I 31 = nI c) (hc4 : c ≤ 4) (hm : A 32 p = nI m) (hm5 : m < 5) (hs1 : ¬ m = 0) (hs2 : A 31 p = q) (hs3 : m = c) {Q : mO × mHp → Prop} (kk : Q (.inl (some (.int (A 33 p))), hS n u I A J B mk sn L xs X)) : mq 61 0 [some (.ref 13), some (.ref 60), none, none] [] (hS n u I A J B mk sn L xs X) Q := by
  refine x_al1 (pc := 0) rfl rfl ?_
  refine g_60_1 (pc := 1) (v := nI p) rfl rfl hp ?_
  refine x_is1 (pc := 4) (ml' := [some (.ref 13), some (.ref 60), some (.int (nI p)), none]) rfl rfl ?_
  refine x_al1 (pc := 5) rfl rfl ?_
  refine x_il1 (pc := 6) rfl rfl ?_
  refine x_k (pc := 7) rfl rfl rfl ⟨Nat.le_of_ble_eq_true rfl, Nat.le_of_ble_eq_true rfl, Nat.le_of_ble_eq_true rfl⟩ rfl (k_53_0 (I := I) (A := A) hp8 hm hm5 ?_)
  show mq 61 10 [some (.ref 13), some (.ref 60), some (.int (nI p)), none] [.int (nI (if m = 0 then 0 else 1))] (hS n u I A J B mk sn L xs X) _
  refine x_ifN_eq (pc := 10) (t := 46) rfl rfl (by split <;> omega) (fun c10 => ?_) (fun c10 => ?_)
  · rw [if_neg hs1] at c10
    exact absurd c10 (by decide)
  · refine x_al1 (pc := 13) rfl rfl ?_
    refine g_13_2 (pc := 14) rfl rfl ?_
    refine x_il1 (pc := 17) rfl rfl ?_
    refine al_15 (pc := 18) (q := p) (v := (A 31) p) rfl rfl (by omega) rfl ?_
    refine x_al1 (pc := 19) rfl rfl ?_
    refine g_60_2 (pc := 20) (v := q) rfl rfl hq ?_
    refine x_cmp_ne (pc := 23) (t := 46) rfl rfl rfl (fun c23 => ?_) (fun c23 => ?_)
    · exact absurd hs2 c23
    · refine x_al1 (pc := 26) rfl rfl ?_
      refine g_13_3 (pc := 27) rfl rfl ?_
      refine x_il1 (pc := 30) rfl rfl ?_
      refine al_16 (pc := 31) (q := p) (v := nI m) rfl rfl (by omega) hm ?_
      refine x_al1 (pc := 32) rfl rfl ?_
      refine g_60_0 (pc := 33) rfl rfl ?_
      refine g_61_5 (pc := 36) (v := nI c) rfl rfl hc ?_
      refine x_cmpN_ne (pc := 39) (t := 46) rfl rfl (by omega) (by omega) (fun c39 => ?_) (fun c39 => ?_)
      · exact absurd hs3 c39
      · refine x_const (pc := 42) (pc' := 43) (.int (nI 1)) rfl rfl rfl rfl ?_
        refine x_step (pc := 43) (pc' := 47) rfl rfl rfl rfl ?_
        refine x_is1 (pc := 47) (ml' := [some (.ref 13), some (.ref 60), some (.int (nI p)), some (.int (nI 1))]) rfl rfl ?_
        refine x_il1 (pc := 48) rfl rfl ?_
        refine x_ifN_eq (pc := 49) (t := 61) rfl rfl (by decide) (fun c => absurd c (by decide)) (fun _ => ?_)
        refine x_al1 (pc := 52) rfl rfl ?_
        refine g_13_4 (pc := 53) rfl rfl ?_
        refine x_il1 (pc := 56) rfl rfl ?_
        refine al_17 (pc := 57) (q := p) (v := (A 33) p) rfl rfl (by omega) rfl ?_
        refine x_step (pc := 58) (pc' := 62) rfl rfl rfl rfl ?_
        refine x_ret (pc := 62) rfl rfl ?_
        exact kk
set_option maxRecDepth 100000 in
set_option maxHeartbeats 4000000 in
theorem k_61n_0_60 (hp : I 29 = nI 255) {Q : mO × mHp → Prop} (kk : Q (.inl (some (.int (-1))), hS n u I A J B mk sn L xs X)) : mq 61 0 [some (.ref 13), some (.ref 60), none, none] [] (hS n u I A J B mk sn L xs X) Q := by
  refine x_al1 (pc := 0) rfl rfl ?_
  refine g_60_1 (pc := 1) (v := nI 255) rfl rfl hp ?_
  refine x_is1 (pc := 4) (ml' := [some (.ref 13), some (.ref 60), some (.int (nI 255)), none]) rfl rfl ?_
  refine x_al1 (pc := 5) rfl rfl ?_
  refine x_il1 (pc := 6) rfl rfl ?_
  refine x_k (pc := 7) rfl rfl rfl ⟨Nat.le_of_ble_eq_true rfl, Nat.le_of_ble_eq_true rfl, Nat.le_of_ble_eq_true rfl⟩ rfl (k_53b_0 (I := I) (A := A) (Or.inr (by decide)) ?_)
  show mq 61 10 [some (.ref 13), some (.ref 60), some (.int (nI 255)), none] [.int (nI 0)] (hS n u I A J B mk sn L xs X) _
  refine x_ifN_eq (pc := 10) (t := 46) rfl rfl (by decide) (fun _ => ?_) (fun c => absurd c (by decide))
  refine x_const (pc := 46) (pc' := 47) (.int (nI 0)) rfl rfl rfl rfl ?_
  refine x_is1 (pc := 47) (ml' := [some (.ref 13), some (.ref 60), some (.int (nI 255)), some (.int (nI 0))]) rfl rfl ?_
  refine x_il1 (pc := 48) rfl rfl ?_
  refine x_ifN_eq (pc := 49) (t := 61) rfl rfl (by decide) (fun _ => ?_) (fun c => absurd c (by decide))
  refine x_const (pc := 61) (pc' := 62) (.int (-1)) rfl rfl rfl rfl ?_
  refine x_ret (pc := 62) rfl rfl ?_
  exact kk
set_option maxRecDepth 100000 in
set_option maxHeartbeats 4000000 in
theorem k_62_0_60 {p m c : Nat} {q : Int32} (hp : I 29 = nI p) (hp8 : p < 8) (hq : I 30 = q) (hc : I 31 = nI c) (hc4 : c ≤ 4) (hm : A 32 p = nI m) (hm5 : m < 5) (hor : m = 0 ∨ A 31 p + nI m = q) {Q : mO × mHp → Prop} (kk : Q (.inl none, hS n u I A J B mk sn L xs X)) : mq 62 0 [some (.ref 1), some (.ref 13), some (.ref 60), none] [] (hS n u I A J B mk sn L xs X) Q := by
  refine x_al1 (pc := 0) rfl rfl ?_
  refine g_60_1 (pc := 1) (v := nI p) rfl rfl hp ?_
  refine x_is1 (pc := 4) (ml' := [some (.ref 1), some (.ref 13), some (.ref 60), some (.int (nI p))]) rfl rfl ?_
  refine x_al1 (pc := 5) rfl rfl ?_
  refine x_il1 (pc := 6) rfl rfl ?_
  refine x_k (pc := 7) rfl rfl rfl ⟨Nat.le_of_ble_eq_true rfl, Nat.le_of_ble_eq_true rfl, Nat.le_of_ble_eq_true rfl⟩ rfl (k_53_0 (I := I) (A := A) hp8 hm hm5 ?_)
  show mq 62 10 [some (.ref 1), some (.ref 13), some (.ref 60), some (.int (nI p))] [.int (nI (if m = 0 then 0 else 1))] (hS n u I A J B mk sn L xs X) _
  refine x_ifN_eq (pc := 10) (t := 44) rfl rfl (by split <;> omega) (fun c10 => ?_) (fun c10 => ?_)
  · refine x_ret (pc := 44) rfl rfl ?_
    exact kk
  · refine x_al1 (pc := 13) rfl rfl ?_
    refine g_13_2 (pc := 14) rfl rfl ?_
    refine x_il1 (pc := 17) rfl rfl ?_
    refine al_15 (pc := 18) (q := p) (v := (A 31) p) rfl rfl (by omega) rfl ?_
    refine x_al1 (pc := 19) rfl rfl ?_
    refine g_13_3 (pc := 20) rfl rfl ?_
    refine x_il1 (pc := 23) rfl rfl ?_
    refine al_16 (pc := 24) (q := p) (v := nI m) rfl rfl (by omega) hm ?_
    refine x_iadd (pc := 25) rfl rfl ?_
    refine x_al1 (pc := 26) rfl rfl ?_
    refine g_60_2 (pc := 27) (v := q) rfl rfl hq ?_
    refine x_cmp_eq (pc := 30) (t := 44) rfl rfl rfl (fun c30 => ?_) (fun c30 => ?_)
    · refine x_ret (pc := 44) rfl rfl ?_
      exact kk
    · rcases hor with h | h
      · exact absurd (if_pos h) c10
      · exact absurd h c30
set_option maxRecDepth 100000 in
set_option maxHeartbeats 4000000 in
theorem k_62x_0_60 {p m c : Nat} {q : Int32} (hp : I 29 = nI p) (hp8 : p < 8) (hq : I 30 = q) (hc : I 31 = nI c) (hc4 : c ≤ 4) (hm : A 32 p = nI m) (hm5 : m < 5) (hm0 : ¬ m = 0) (hor : ¬ A 31 p + nI m = q) (hn : 77 ≤ n ∧ n < 10000) (hu : u + 6 < 1000000) {Q : mO × mHp → Prop} (kk : Q (.inr n, hS (n + 1) (u + 6) I A J B mk sn L xs (va_up X n (.inr (11, []))))) : mq 62 0 [some (.ref 1), some (.ref 13), some (.ref 60), none] [] (hS n u I A J B mk sn L xs X) Q := by
  refine x_al1 (pc := 0) rfl rfl ?_
  refine g_60_1 (pc := 1) (v := nI p) rfl rfl hp ?_
  refine x_is1 (pc := 4) (ml' := [some (.ref 1), some (.ref 13), some (.ref 60), some (.int (nI p))]) rfl rfl ?_
  refine x_al1 (pc := 5) rfl rfl ?_
  refine x_il1 (pc := 6) rfl rfl ?_
  refine x_k (pc := 7) rfl rfl rfl ⟨Nat.le_of_ble_eq_true rfl, Nat.le_of_ble_eq_true rfl, Nat.le_of_ble_eq_true rfl⟩ rfl (k_53_0 (I := I) (A := A) hp8 hm hm5 ?_)
  show mq 62 10 [some (.ref 1), some (.ref 13), some (.ref 60), some (.int (nI p))] [.int (nI (if m = 0 then 0 else 1))] (hS n u I A J B mk sn L xs X) _
  refine x_ifN_eq (pc := 10) (t := 44) rfl rfl (by split <;> omega) (fun c10 => ?_) (fun c10 => ?_)
  · rw [if_neg hm0] at c10
    exact absurd c10 (by decide)
  · refine x_al1 (pc := 13) rfl rfl ?_
    refine g_13_2 (pc := 14) rfl rfl ?_
    refine x_il1 (pc := 17) rfl rfl ?_
    refine al_15 (pc := 18) (q := p) (v := (A 31) p) rfl rfl (by omega) rfl ?_
    refine x_al1 (pc := 19) rfl rfl ?_
    refine g_13_3 (pc := 20) rfl rfl ?_
    refine x_il1 (pc := 23) rfl rfl ?_
    refine al_16 (pc := 24) (q := p) (v := nI m) rfl rfl (by omega) hm ?_
    refine x_iadd (pc := 25) rfl rfl ?_
    refine x_al1 (pc := 26) rfl rfl ?_
    refine g_60_2 (pc := 27) (v := q) rfl rfl hq ?_
    refine x_cmp_eq (pc := 30) (t := 44) rfl rfl rfl (fun c30 => ?_) (fun c30 => ?_)
    · exact absurd c30 hor
    · refine x_thr (pc := 33) rfl rfl hn hu rfl ⟨Nat.le_of_ble_eq_true rfl, Nat.le_of_ble_eq_true rfl⟩ ?_
      exact kk
set_option maxRecDepth 100000 in
set_option maxHeartbeats 4000000 in
theorem k_62n_0_60 (hp : I 29 = nI 255) {Q : mO × mHp → Prop} (kk : Q (.inl none, hS n u I A J B mk sn L xs X)) : mq 62 0 [some (.ref 1), some (.ref 13), some (.ref 60), none] [] (hS n u I A J B mk sn L xs X) Q := by
  refine x_al1 (pc := 0) rfl rfl ?_
  refine g_60_1 (pc := 1) (v := nI 255) rfl rfl hp ?_
  refine x_is1 (pc := 4) (ml' := [some (.ref 1), some (.ref 13), some (.ref 60), some (.int (nI 255))]) rfl rfl ?_
  refine x_al1 (pc := 5) rfl rfl ?_
  refine x_il1 (pc := 6) rfl rfl ?_
  refine x_k (pc := 7) rfl rfl rfl ⟨Nat.le_of_ble_eq_true rfl, Nat.le_of_ble_eq_true rfl, Nat.le_of_ble_eq_true rfl⟩ rfl (k_53b_0 (I := I) (A := A) (Or.inr (by decide)) ?_)
  show mq 62 10 [some (.ref 1), some (.ref 13), some (.ref 60), some (.int (nI 255))] [.int (nI 0)] (hS n u I A J B mk sn L xs X) _
  refine x_ifN_eq (pc := 10) (t := 44) rfl rfl (by decide) (fun _ => ?_) (fun c => absurd c (by decide))
  refine x_ret (pc := 44) rfl rfl ?_
  exact kk
set_option maxRecDepth 100000 in
set_option maxHeartbeats 4000000 in
theorem k_61d_1_53 {p m c : Nat} {q : Int32} (hp : I 26 = nI p) (hp8 : p < 8) (hq : I 27 = q) (hc : I 28 = nI c) (hc4 : c ≤ 4) (hm : A 36 p = nI m) (hm5 : m < 5) (hns : ¬ (¬ m = 0 ∧ A 35 p = q ∧ m = c)) {Q : mO × mHp → Prop} (kk : Q (.inl (some (.int (-1))), hS n u I A J B mk sn L xs X)) : mq 61 0 [some (.ref 18), some (.ref 53), none, none] [] (hS n u I A J B mk sn L xs X) Q := by
  refine x_al1 (pc := 0) rfl rfl ?_
  refine g_53_1 (pc := 1) (v := nI p) rfl rfl hp ?_
  refine x_is1 (pc := 4) (ml' := [some (.ref 18), some (.ref 53), some (.int (nI p)), none]) rfl rfl ?_
  refine x_al1 (pc := 5) rfl rfl ?_
  refine x_il1 (pc := 6) rfl rfl ?_
  refine x_k (pc := 7) rfl rfl rfl ⟨Nat.le_of_ble_eq_true rfl, Nat.le_of_ble_eq_true rfl, Nat.le_of_ble_eq_true rfl⟩ rfl (k_53_1 (I := I) (A := A) hp8 hm hm5 ?_)
  show mq 61 10 [some (.ref 18), some (.ref 53), some (.int (nI p)), none] [.int (nI (if m = 0 then 0 else 1))] (hS n u I A J B mk sn L xs X) _
  refine x_ifN_eq (pc := 10) (t := 46) rfl rfl (by split <;> omega) (fun c10 => ?_) (fun c10 => ?_)
  · refine x_const (pc := 46) (pc' := 47) (.int (nI 0)) rfl rfl rfl rfl ?_
    refine x_is1 (pc := 47) (ml' := [some (.ref 18), some (.ref 53), some (.int (nI p)), some (.int (nI 0))]) rfl rfl ?_
    refine x_il1 (pc := 48) rfl rfl ?_
    refine x_ifN_eq (pc := 49) (t := 61) rfl rfl (by decide) (fun _ => ?_) (fun c => absurd c (by decide))
    refine x_const (pc := 61) (pc' := 62) (.int (-1)) rfl rfl rfl rfl ?_
    refine x_ret (pc := 62) rfl rfl ?_
    exact kk
  · refine x_al1 (pc := 13) rfl rfl ?_
    refine g_18_2 (pc := 14) rfl rfl ?_
    refine x_il1 (pc := 17) rfl rfl ?_
    refine al_20 (pc := 18) (q := p) (v := (A 35) p) rfl rfl (by omega) rfl ?_
    refine x_al1 (pc := 19) rfl rfl ?_
    refine g_53_2 (pc := 20) (v := q) rfl rfl hq ?_
    refine x_cmp_ne (pc := 23) (t := 46) rfl rfl rfl (fun c23 => ?_) (fun c23 => ?_)
    · refine x_const (pc := 46) (pc' := 47) (.int (nI 0)) rfl rfl rfl rfl ?_
      refine x_is1 (pc := 47) (ml' := [some (.ref 18), some (.ref 53), some (.int (nI p)), some (.int (nI 0))]) rfl rfl ?_
      refine x_il1 (pc := 48) rfl rfl ?_
      refine x_ifN_eq (pc := 49) (t := 61) rfl rfl (by decide) (fun _ => ?_) (fun c => absurd c (by decide))
      refine x_const (pc := 61) (pc' := 62) (.int (-1)) rfl rfl rfl rfl ?_
      refine x_ret (pc := 62) rfl rfl ?_
      exact kk
    · refine x_al1 (pc := 26) rfl rfl ?_
      refine g_18_3 (pc := 27) rfl rfl ?_
      refine x_il1 (pc := 30) rfl rfl ?_
      refine al_21 (pc := 31) (q := p) (v := nI m) rfl rfl (by omega) hm ?_
      refine x_al1 (pc := 32) rfl rfl ?_
      refine g_53_0 (pc := 33) rfl rfl ?_
      refine g_54_5 (pc := 36) (v := nI c) rfl rfl hc ?_
      refine x_cmpN_ne (pc := 39) (t := 46) rfl rfl (by omega) (by omega) (fun c39 => ?_) (fun c39 => ?_)
      · refine x_const (pc := 46) (pc' := 47) (.int (nI 0)) rfl rfl rfl rfl ?_
        refine x_is1 (pc := 47) (ml' := [some (.ref 18), some (.ref 53), some (.int (nI p)), some (.int (nI 0))]) rfl rfl ?_
        refine x_il1 (pc := 48) rfl rfl ?_
        refine x_ifN_eq (pc := 49) (t := 61) rfl rfl (by decide) (fun _ => ?_) (fun c => absurd c (by decide))
        refine x_const (pc := 61) (pc' := 62) (.int (-1)) rfl rfl rfl rfl ?_
        refine x_ret (pc := 62) rfl rfl ?_
        exact kk
      · refine absurd ⟨fun e => c10 (if_pos e), ?_, ?_⟩ hns
        · exact c23
        · exact c39
set_option maxRecDepth 100000 in
set_option maxHeartbeats 4000000 in
theorem k_61s_1_53 {p m c : Nat} {q : Int32} (hp : I 26 = nI p) (hp8 : p < 8) (hq : I 27 = q) (hc : I 28 = nI c) (hc4 : c ≤ 4) (hm : A 36 p = nI m) (hm5 : m < 5) (hs1 : ¬ m = 0) (hs2 : A 35 p = q) (hs3 : m = c) {Q : mO × mHp → Prop} (kk : Q (.inl (some (.int (A 37 p))), hS n u I A J B mk sn L xs X)) : mq 61 0 [some (.ref 18), some (.ref 53), none, none] [] (hS n u I A J B mk sn L xs X) Q := by
  refine x_al1 (pc := 0) rfl rfl ?_
  refine g_53_1 (pc := 1) (v := nI p) rfl rfl hp ?_
  refine x_is1 (pc := 4) (ml' := [some (.ref 18), some (.ref 53), some (.int (nI p)), none]) rfl rfl ?_
  refine x_al1 (pc := 5) rfl rfl ?_
  refine x_il1 (pc := 6) rfl rfl ?_
  refine x_k (pc := 7) rfl rfl rfl ⟨Nat.le_of_ble_eq_true rfl, Nat.le_of_ble_eq_true rfl, Nat.le_of_ble_eq_true rfl⟩ rfl (k_53_1 (I := I) (A := A) hp8 hm hm5 ?_)
  show mq 61 10 [some (.ref 18), some (.ref 53), some (.int (nI p)), none] [.int (nI (if m = 0 then 0 else 1))] (hS n u I A J B mk sn L xs X) _
  refine x_ifN_eq (pc := 10) (t := 46) rfl rfl (by split <;> omega) (fun c10 => ?_) (fun c10 => ?_)
  · rw [if_neg hs1] at c10
    exact absurd c10 (by decide)
  · refine x_al1 (pc := 13) rfl rfl ?_
    refine g_18_2 (pc := 14) rfl rfl ?_
    refine x_il1 (pc := 17) rfl rfl ?_
    refine al_20 (pc := 18) (q := p) (v := (A 35) p) rfl rfl (by omega) rfl ?_
    refine x_al1 (pc := 19) rfl rfl ?_
    refine g_53_2 (pc := 20) (v := q) rfl rfl hq ?_
    refine x_cmp_ne (pc := 23) (t := 46) rfl rfl rfl (fun c23 => ?_) (fun c23 => ?_)
    · exact absurd hs2 c23
    · refine x_al1 (pc := 26) rfl rfl ?_
      refine g_18_3 (pc := 27) rfl rfl ?_
      refine x_il1 (pc := 30) rfl rfl ?_
      refine al_21 (pc := 31) (q := p) (v := nI m) rfl rfl (by omega) hm ?_
      refine x_al1 (pc := 32) rfl rfl ?_
      refine g_53_0 (pc := 33) rfl rfl ?_
      refine g_54_5 (pc := 36) (v := nI c) rfl rfl hc ?_
      refine x_cmpN_ne (pc := 39) (t := 46) rfl rfl (by omega) (by omega) (fun c39 => ?_) (fun c39 => ?_)
      · exact absurd hs3 c39
      · refine x_const (pc := 42) (pc' := 43) (.int (nI 1)) rfl rfl rfl rfl ?_
        refine x_step (pc := 43) (pc' := 47) rfl rfl rfl rfl ?_
        refine x_is1 (pc := 47) (ml' := [some (.ref 18), some (.ref 53), some (.int (nI p)), some (.int (nI 1))]) rfl rfl ?_
        refine x_il1 (pc := 48) rfl rfl ?_
        refine x_ifN_eq (pc := 49) (t := 61) rfl rfl (by decide) (fun c => absurd c (by decide)) (fun _ => ?_)
        refine x_al1 (pc := 52) rfl rfl ?_
        refine g_18_4 (pc := 53) rfl rfl ?_
        refine x_il1 (pc := 56) rfl rfl ?_
        refine al_22 (pc := 57) (q := p) (v := (A 37) p) rfl rfl (by omega) rfl ?_
        refine x_step (pc := 58) (pc' := 62) rfl rfl rfl rfl ?_
        refine x_ret (pc := 62) rfl rfl ?_
        exact kk
set_option maxRecDepth 100000 in
set_option maxHeartbeats 4000000 in
theorem k_61n_1_53 (hp : I 26 = nI 255) {Q : mO × mHp → Prop} (kk : Q (.inl (some (.int (-1))), hS n u I A J B mk sn L xs X)) : mq 61 0 [some (.ref 18), some (.ref 53), none, none] [] (hS n u I A J B mk sn L xs X) Q := by
  refine x_al1 (pc := 0) rfl rfl ?_
  refine g_53_1 (pc := 1) (v := nI 255) rfl rfl hp ?_
  refine x_is1 (pc := 4) (ml' := [some (.ref 18), some (.ref 53), some (.int (nI 255)), none]) rfl rfl ?_
  refine x_al1 (pc := 5) rfl rfl ?_
  refine x_il1 (pc := 6) rfl rfl ?_
  refine x_k (pc := 7) rfl rfl rfl ⟨Nat.le_of_ble_eq_true rfl, Nat.le_of_ble_eq_true rfl, Nat.le_of_ble_eq_true rfl⟩ rfl (k_53b_1 (I := I) (A := A) (Or.inr (by decide)) ?_)
  show mq 61 10 [some (.ref 18), some (.ref 53), some (.int (nI 255)), none] [.int (nI 0)] (hS n u I A J B mk sn L xs X) _
  refine x_ifN_eq (pc := 10) (t := 46) rfl rfl (by decide) (fun _ => ?_) (fun c => absurd c (by decide))
  refine x_const (pc := 46) (pc' := 47) (.int (nI 0)) rfl rfl rfl rfl ?_
  refine x_is1 (pc := 47) (ml' := [some (.ref 18), some (.ref 53), some (.int (nI 255)), some (.int (nI 0))]) rfl rfl ?_
  refine x_il1 (pc := 48) rfl rfl ?_
  refine x_ifN_eq (pc := 49) (t := 61) rfl rfl (by decide) (fun _ => ?_) (fun c => absurd c (by decide))
  refine x_const (pc := 61) (pc' := 62) (.int (-1)) rfl rfl rfl rfl ?_
  refine x_ret (pc := 62) rfl rfl ?_
  exact kk
set_option maxRecDepth 100000 in
set_option maxHeartbeats 4000000 in
theorem k_62_1_53 {p m c : Nat} {q : Int32} (hp : I 26 = nI p) (hp8 : p < 8) (hq : I 27 = q) (hc : I 28 = nI c) (hc4 : c ≤ 4) (hm : A 36 p = nI m) (hm5 : m < 5) (hor : m = 0 ∨ A 35 p + nI m = q) {Q : mO × mHp → Prop} (kk : Q (.inl none, hS n u I A J B mk sn L xs X)) : mq 62 0 [some (.ref 1), some (.ref 18), some (.ref 53), none] [] (hS n u I A J B mk sn L xs X) Q := by
  refine x_al1 (pc := 0) rfl rfl ?_
  refine g_53_1 (pc := 1) (v := nI p) rfl rfl hp ?_
  refine x_is1 (pc := 4) (ml' := [some (.ref 1), some (.ref 18), some (.ref 53), some (.int (nI p))]) rfl rfl ?_
  refine x_al1 (pc := 5) rfl rfl ?_
  refine x_il1 (pc := 6) rfl rfl ?_
  refine x_k (pc := 7) rfl rfl rfl ⟨Nat.le_of_ble_eq_true rfl, Nat.le_of_ble_eq_true rfl, Nat.le_of_ble_eq_true rfl⟩ rfl (k_53_1 (I := I) (A := A) hp8 hm hm5 ?_)
  show mq 62 10 [some (.ref 1), some (.ref 18), some (.ref 53), some (.int (nI p))] [.int (nI (if m = 0 then 0 else 1))] (hS n u I A J B mk sn L xs X) _
  refine x_ifN_eq (pc := 10) (t := 44) rfl rfl (by split <;> omega) (fun c10 => ?_) (fun c10 => ?_)
  · refine x_ret (pc := 44) rfl rfl ?_
    exact kk
  · refine x_al1 (pc := 13) rfl rfl ?_
    refine g_18_2 (pc := 14) rfl rfl ?_
    refine x_il1 (pc := 17) rfl rfl ?_
    refine al_20 (pc := 18) (q := p) (v := (A 35) p) rfl rfl (by omega) rfl ?_
    refine x_al1 (pc := 19) rfl rfl ?_
    refine g_18_3 (pc := 20) rfl rfl ?_
    refine x_il1 (pc := 23) rfl rfl ?_
    refine al_21 (pc := 24) (q := p) (v := nI m) rfl rfl (by omega) hm ?_
    refine x_iadd (pc := 25) rfl rfl ?_
    refine x_al1 (pc := 26) rfl rfl ?_
    refine g_53_2 (pc := 27) (v := q) rfl rfl hq ?_
    refine x_cmp_eq (pc := 30) (t := 44) rfl rfl rfl (fun c30 => ?_) (fun c30 => ?_)
    · refine x_ret (pc := 44) rfl rfl ?_
      exact kk
    · rcases hor with h | h
      · exact absurd (if_pos h) c10
      · exact absurd h c30
set_option maxRecDepth 100000 in
set_option maxHeartbeats 4000000 in
theorem k_62x_1_53 {p m c : Nat} {q : Int32} (hp : I 26 = nI p) (hp8 : p < 8) (hq : I 27 = q) (hc : I 28 = nI c) (hc4 : c ≤ 4) (hm : A 36 p = nI m) (hm5 : m < 5) (hm0 : ¬ m = 0) (hor : ¬ A 35 p + nI m = q) (hn : 77 ≤ n ∧ n < 10000) (hu : u + 6 < 1000000) {Q : mO × mHp → Prop} (kk : Q (.inr n, hS (n + 1) (u + 6) I A J B mk sn L xs (va_up X n (.inr (11, []))))) : mq 62 0 [some (.ref 1), some (.ref 18), some (.ref 53), none] [] (hS n u I A J B mk sn L xs X) Q := by
  refine x_al1 (pc := 0) rfl rfl ?_
  refine g_53_1 (pc := 1) (v := nI p) rfl rfl hp ?_
  refine x_is1 (pc := 4) (ml' := [some (.ref 1), some (.ref 18), some (.ref 53), some (.int (nI p))]) rfl rfl ?_
  refine x_al1 (pc := 5) rfl rfl ?_
  refine x_il1 (pc := 6) rfl rfl ?_
  refine x_k (pc := 7) rfl rfl rfl ⟨Nat.le_of_ble_eq_true rfl, Nat.le_of_ble_eq_true rfl, Nat.le_of_ble_eq_true rfl⟩ rfl (k_53_1 (I := I) (A := A) hp8 hm hm5 ?_)
  show mq 62 10 [some (.ref 1), some (.ref 18), some (.ref 53), some (.int (nI p))] [.int (nI (if m = 0 then 0 else 1))] (hS n u I A J B mk sn L xs X) _
  refine x_ifN_eq (pc := 10) (t := 44) rfl rfl (by split <;> omega) (fun c10 => ?_) (fun c10 => ?_)
  · rw [if_neg hm0] at c10
    exact absurd c10 (by decide)
  · refine x_al1 (pc := 13) rfl rfl ?_
    refine g_18_2 (pc := 14) rfl rfl ?_
    refine x_il1 (pc := 17) rfl rfl ?_
    refine al_20 (pc := 18) (q := p) (v := (A 35) p) rfl rfl (by omega) rfl ?_
    refine x_al1 (pc := 19) rfl rfl ?_
    refine g_18_3 (pc := 20) rfl rfl ?_
    refine x_il1 (pc := 23) rfl rfl ?_
    refine al_21 (pc := 24) (q := p) (v := nI m) rfl rfl (by omega) hm ?_
    refine x_iadd (pc := 25) rfl rfl ?_
    refine x_al1 (pc := 26) rfl rfl ?_
    refine g_53_2 (pc := 27) (v := q) rfl rfl hq ?_
    refine x_cmp_eq (pc := 30) (t := 44) rfl rfl rfl (fun c30 => ?_) (fun c30 => ?_)
    · exact absurd c30 hor
    · refine x_thr (pc := 33) rfl rfl hn hu rfl ⟨Nat.le_of_ble_eq_true rfl, Nat.le_of_ble_eq_true rfl⟩ ?_
      exact kk
set_option maxRecDepth 100000 in
set_option maxHeartbeats 4000000 in
theorem k_62n_1_53 (hp : I 26 = nI 255) {Q : mO × mHp → Prop} (kk : Q (.inl none, hS n u I A J B mk sn L xs X)) : mq 62 0 [some (.ref 1), some (.ref 18), some (.ref 53), none] [] (hS n u I A J B mk sn L xs X) Q := by
  refine x_al1 (pc := 0) rfl rfl ?_
  refine g_53_1 (pc := 1) (v := nI 255) rfl rfl hp ?_
  refine x_is1 (pc := 4) (ml' := [some (.ref 1), some (.ref 18), some (.ref 53), some (.int (nI 255))]) rfl rfl ?_
  refine x_al1 (pc := 5) rfl rfl ?_
  refine x_il1 (pc := 6) rfl rfl ?_
  refine x_k (pc := 7) rfl rfl rfl ⟨Nat.le_of_ble_eq_true rfl, Nat.le_of_ble_eq_true rfl, Nat.le_of_ble_eq_true rfl⟩ rfl (k_53b_1 (I := I) (A := A) (Or.inr (by decide)) ?_)
  show mq 62 10 [some (.ref 1), some (.ref 18), some (.ref 53), some (.int (nI 255))] [.int (nI 0)] (hS n u I A J B mk sn L xs X) _
  refine x_ifN_eq (pc := 10) (t := 44) rfl rfl (by decide) (fun _ => ?_) (fun c => absurd c (by decide))
  refine x_ret (pc := 44) rfl rfl ?_
  exact kk
set_option maxRecDepth 100000 in
set_option maxHeartbeats 4000000 in
theorem k_61d_1_60 {p m c : Nat} {q : Int32} (hp : I 29 = nI p) (hp8 : p < 8) (hq : I 30 = q) (hc : I 31 = nI c) (hc4 : c ≤ 4) (hm : A 36 p = nI m) (hm5 : m < 5) (hns : ¬ (¬ m = 0 ∧ A 35 p = q ∧ m = c)) {Q : mO × mHp → Prop} (kk : Q (.inl (some (.int (-1))), hS n u I A J B mk sn L xs X)) : mq 61 0 [some (.ref 18), some (.ref 60), none, none] [] (hS n u I A J B mk sn L xs X) Q := by
  refine x_al1 (pc := 0) rfl rfl ?_
  refine g_60_1 (pc := 1) (v := nI p) rfl rfl hp ?_
  refine x_is1 (pc := 4) (ml' := [some (.ref 18), some (.ref 60), some (.int (nI p)), none]) rfl rfl ?_
  refine x_al1 (pc := 5) rfl rfl ?_
  refine x_il1 (pc := 6) rfl rfl ?_
  refine x_k (pc := 7) rfl rfl rfl ⟨Nat.le_of_ble_eq_true rfl, Nat.le_of_ble_eq_true rfl, Nat.le_of_ble_eq_true rfl⟩ rfl (k_53_1 (I := I) (A := A) hp8 hm hm5 ?_)
  show mq 61 10 [some (.ref 18), some (.ref 60), some (.int (nI p)), none] [.int (nI (if m = 0 then 0 else 1))] (hS n u I A J B mk sn L xs X) _
  refine x_ifN_eq (pc := 10) (t := 46) rfl rfl (by split <;> omega) (fun c10 => ?_) (fun c10 => ?_)
  · refine x_const (pc := 46) (pc' := 47) (.int (nI 0)) rfl rfl rfl rfl ?_
    refine x_is1 (pc := 47) (ml' := [some (.ref 18), some (.ref 60), some (.int (nI p)), some (.int (nI 0))]) rfl rfl ?_
    refine x_il1 (pc := 48) rfl rfl ?_
    refine x_ifN_eq (pc := 49) (t := 61) rfl rfl (by decide) (fun _ => ?_) (fun c => absurd c (by decide))
    refine x_const (pc := 61) (pc' := 62) (.int (-1)) rfl rfl rfl rfl ?_
    refine x_ret (pc := 62) rfl rfl ?_
    exact kk
  · refine x_al1 (pc := 13) rfl rfl ?_
    refine g_18_2 (pc := 14) rfl rfl ?_
    refine x_il1 (pc := 17) rfl rfl ?_
    refine al_20 (pc := 18) (q := p) (v := (A 35) p) rfl rfl (by omega) rfl ?_
    refine x_al1 (pc := 19) rfl rfl ?_
    refine g_60_2 (pc := 20) (v := q) rfl rfl hq ?_
    refine x_cmp_ne (pc := 23) (t := 46) rfl rfl rfl (fun c23 => ?_) (fun c23 => ?_)
    · refine x_const (pc := 46) (pc' := 47) (.int (nI 0)) rfl rfl rfl rfl ?_
      refine x_is1 (pc := 47) (ml' := [some (.ref 18), some (.ref 60), some (.int (nI p)), some (.int (nI 0))]) rfl rfl ?_
      refine x_il1 (pc := 48) rfl rfl ?_
      refine x_ifN_eq (pc := 49) (t := 61) rfl rfl (by decide) (fun _ => ?_) (fun c => absurd c (by decide))
      refine x_const (pc := 61) (pc' := 62) (.int (-1)) rfl rfl rfl rfl ?_
      refine x_ret (pc := 62) rfl rfl ?_
      exact kk
    · refine x_al1 (pc := 26) rfl rfl ?_
      refine g_18_3 (pc := 27) rfl rfl ?_
      refine x_il1 (pc := 30) rfl rfl ?_
      refine al_21 (pc := 31) (q := p) (v := nI m) rfl rfl (by omega) hm ?_
      refine x_al1 (pc := 32) rfl rfl ?_
      refine g_60_0 (pc := 33) rfl rfl ?_
      refine g_61_5 (pc := 36) (v := nI c) rfl rfl hc ?_
      refine x_cmpN_ne (pc := 39) (t := 46) rfl rfl (by omega) (by omega) (fun c39 => ?_) (fun c39 => ?_)
      · refine x_const (pc := 46) (pc' := 47) (.int (nI 0)) rfl rfl rfl rfl ?_
        refine x_is1 (pc := 47) (ml' := [some (.ref 18), some (.ref 60), some (.int (nI p)), some (.int (nI 0))]) rfl rfl ?_
        refine x_il1 (pc := 48) rfl rfl ?_
        refine x_ifN_eq (pc := 49) (t := 61) rfl rfl (by decide) (fun _ => ?_) (fun c => absurd c (by decide))
        refine x_const (pc := 61) (pc' := 62) (.int (-1)) rfl rfl rfl rfl ?_
        refine x_ret (pc := 62) rfl rfl ?_
        exact kk
      · refine absurd ⟨fun e => c10 (if_pos e), ?_, ?_⟩ hns
        · exact c23
        · exact c39
set_option maxRecDepth 100000 in
set_option maxHeartbeats 4000000 in
theorem k_61s_1_60 {p m c : Nat} {q : Int32} (hp : I 29 = nI p) (hp8 : p < 8) (hq : I 30 = q) (hc : I 31 = nI c) (hc4 : c ≤ 4) (hm : A 36 p = nI m) (hm5 : m < 5) (hs1 : ¬ m = 0) (hs2 : A 35 p = q) (hs3 : m = c) {Q : mO × mHp → Prop} (kk : Q (.inl (some (.int (A 37 p))), hS n u I A J B mk sn L xs X)) : mq 61 0 [some (.ref 18), some (.ref 60), none, none] [] (hS n u I A J B mk sn L xs X) Q := by
  refine x_al1 (pc := 0) rfl rfl ?_
  refine g_60_1 (pc := 1) (v := nI p) rfl rfl hp ?_
  refine x_is1 (pc := 4) (ml' := [some (.ref 18), some (.ref 60), some (.int (nI p)), none]) rfl rfl ?_
  refine x_al1 (pc := 5) rfl rfl ?_
  refine x_il1 (pc := 6) rfl rfl ?_
  refine x_k (pc := 7) rfl rfl rfl ⟨Nat.le_of_ble_eq_true rfl, Nat.le_of_ble_eq_true rfl, Nat.le_of_ble_eq_true rfl⟩ rfl (k_53_1 (I := I) (A := A) hp8 hm hm5 ?_)
  show mq 61 10 [some (.ref 18), some (.ref 60), some (.int (nI p)), none] [.int (nI (if m = 0 then 0 else 1))] (hS n u I A J B mk sn L xs X) _
  refine x_ifN_eq (pc := 10) (t := 46) rfl rfl (by split <;> omega) (fun c10 => ?_) (fun c10 => ?_)
  · rw [if_neg hs1] at c10
    exact absurd c10 (by decide)
  · refine x_al1 (pc := 13) rfl rfl ?_
    refine g_18_2 (pc := 14) rfl rfl ?_
    refine x_il1 (pc := 17) rfl rfl ?_
    refine al_20 (pc := 18) (q := p) (v := (A 35) p) rfl rfl (by omega) rfl ?_
    refine x_al1 (pc := 19) rfl rfl ?_
    refine g_60_2 (pc := 20) (v := q) rfl rfl hq ?_
    refine x_cmp_ne (pc := 23) (t := 46) rfl rfl rfl (fun c23 => ?_) (fun c23 => ?_)
    · exact absurd hs2 c23
    · refine x_al1 (pc := 26) rfl rfl ?_
      refine g_18_3 (pc := 27) rfl rfl ?_
      refine x_il1 (pc := 30) rfl rfl ?_
      refine al_21 (pc := 31) (q := p) (v := nI m) rfl rfl (by omega) hm ?_
      refine x_al1 (pc := 32) rfl rfl ?_
      refine g_60_0 (pc := 33) rfl rfl ?_
      refine g_61_5 (pc := 36) (v := nI c) rfl rfl hc ?_
      refine x_cmpN_ne (pc := 39) (t := 46) rfl rfl (by omega) (by omega) (fun c39 => ?_) (fun c39 => ?_)
      · exact absurd hs3 c39
      · refine x_const (pc := 42) (pc' := 43) (.int (nI 1)) rfl rfl rfl rfl ?_
        refine x_step (pc := 43) (pc' := 47) rfl rfl rfl rfl ?_
        refine x_is1 (pc := 47) (ml' := [some (.ref 18), some (.ref 60), some (.int (nI p)), some (.int (nI 1))]) rfl rfl ?_
        refine x_il1 (pc := 48) rfl rfl ?_
        refine x_ifN_eq (pc := 49) (t := 61) rfl rfl (by decide) (fun c => absurd c (by decide)) (fun _ => ?_)
        refine x_al1 (pc := 52) rfl rfl ?_
        refine g_18_4 (pc := 53) rfl rfl ?_
        refine x_il1 (pc := 56) rfl rfl ?_
        refine al_22 (pc := 57) (q := p) (v := (A 37) p) rfl rfl (by omega) rfl ?_
        refine x_step (pc := 58) (pc' := 62) rfl rfl rfl rfl ?_
        refine x_ret (pc := 62) rfl rfl ?_
        exact kk
set_option maxRecDepth 100000 in
set_option maxHeartbeats 4000000 in
theorem k_61n_1_60 (hp : I 29 = nI 255) {Q : mO × mHp → Prop} (kk : Q (.inl (some (.int (-1))), hS n u I A J B mk sn L xs X)) : mq 61 0 [some (.ref 18), some (.ref 60), none, none] [] (hS n u I A J B mk sn L xs X) Q := by
  refine x_al1 (pc := 0) rfl rfl ?_
  refine g_60_1 (pc := 1) (v := nI 255) rfl rfl hp ?_
  refine x_is1 (pc := 4) (ml' := [some (.ref 18), some (.ref 60), some (.int (nI 255)), none]) rfl rfl ?_
  refine x_al1 (pc := 5) rfl rfl ?_
  refine x_il1 (pc := 6) rfl rfl ?_
  refine x_k (pc := 7) rfl rfl rfl ⟨Nat.le_of_ble_eq_true rfl, Nat.le_of_ble_eq_true rfl, Nat.le_of_ble_eq_true rfl⟩ rfl (k_53b_1 (I := I) (A := A) (Or.inr (by decide)) ?_)
  show mq 61 10 [some (.ref 18), some (.ref 60), some (.int (nI 255)), none] [.int (nI 0)] (hS n u I A J B mk sn L xs X) _
  refine x_ifN_eq (pc := 10) (t := 46) rfl rfl (by decide) (fun _ => ?_) (fun c => absurd c (by decide))
  refine x_const (pc := 46) (pc' := 47) (.int (nI 0)) rfl rfl rfl rfl ?_
  refine x_is1 (pc := 47) (ml' := [some (.ref 18), some (.ref 60), some (.int (nI 255)), some (.int (nI 0))]) rfl rfl ?_
  refine x_il1 (pc := 48) rfl rfl ?_
  refine x_ifN_eq (pc := 49) (t := 61) rfl rfl (by decide) (fun _ => ?_) (fun c => absurd c (by decide))
  refine x_const (pc := 61) (pc' := 62) (.int (-1)) rfl rfl rfl rfl ?_
  refine x_ret (pc := 62) rfl rfl ?_
  exact kk
set_option maxRecDepth 100000 in
set_option maxHeartbeats 4000000 in
theorem k_62_1_60 {p m c : Nat} {q : Int32} (hp : I 29 = nI p) (hp8 : p < 8) (hq : I 30 = q) (hc : I 31 = nI c) (hc4 : c ≤ 4) (hm : A 36 p = nI m) (hm5 : m < 5) (hor : m = 0 ∨ A 35 p + nI m = q) {Q : mO × mHp → Prop} (kk : Q (.inl none, hS n u I A J B mk sn L xs X)) : mq 62 0 [some (.ref 1), some (.ref 18), some (.ref 60), none] [] (hS n u I A J B mk sn L xs X) Q := by
  refine x_al1 (pc := 0) rfl rfl ?_
  refine g_60_1 (pc := 1) (v := nI p) rfl rfl hp ?_
  refine x_is1 (pc := 4) (ml' := [some (.ref 1), some (.ref 18), some (.ref 60), some (.int (nI p))]) rfl rfl ?_
  refine x_al1 (pc := 5) rfl rfl ?_
  refine x_il1 (pc := 6) rfl rfl ?_
  refine x_k (pc := 7) rfl rfl rfl ⟨Nat.le_of_ble_eq_true rfl, Nat.le_of_ble_eq_true rfl, Nat.le_of_ble_eq_true rfl⟩ rfl (k_53_1 (I := I) (A := A) hp8 hm hm5 ?_)
  show mq 62 10 [some (.ref 1), some (.ref 18), some (.ref 60), some (.int (nI p))] [.int (nI (if m = 0 then 0 else 1))] (hS n u I A J B mk sn L xs X) _
  refine x_ifN_eq (pc := 10) (t := 44) rfl rfl (by split <;> omega) (fun c10 => ?_) (fun c10 => ?_)
  · refine x_ret (pc := 44) rfl rfl ?_
    exact kk
  · refine x_al1 (pc := 13) rfl rfl ?_
    refine g_18_2 (pc := 14) rfl rfl ?_
    refine x_il1 (pc := 17) rfl rfl ?_
    refine al_20 (pc := 18) (q := p) (v := (A 35) p) rfl rfl (by omega) rfl ?_
    refine x_al1 (pc := 19) rfl rfl ?_
    refine g_18_3 (pc := 20) rfl rfl ?_
    refine x_il1 (pc := 23) rfl rfl ?_
    refine al_21 (pc := 24) (q := p) (v := nI m) rfl rfl (by omega) hm ?_
    refine x_iadd (pc := 25) rfl rfl ?_
    refine x_al1 (pc := 26) rfl rfl ?_
    refine g_60_2 (pc := 27) (v := q) rfl rfl hq ?_
    refine x_cmp_eq (pc := 30) (t := 44) rfl rfl rfl (fun c30 => ?_) (fun c30 => ?_)
    · refine x_ret (pc := 44) rfl rfl ?_
      exact kk
    · rcases hor with h | h
      · exact absurd (if_pos h) c10
      · exact absurd h c30
set_option maxRecDepth 100000 in
set_option maxHeartbeats 4000000 in
theorem k_62x_1_60 {p m c : Nat} {q : Int32} (hp : I 29 = nI p) (hp8 : p < 8) (hq : I 30 = q) (hc : I 31 = nI c) (hc4 : c ≤ 4) (hm : A 36 p = nI m) (hm5 : m < 5) (hm0 : ¬ m = 0) (hor : ¬ A 35 p + nI m = q) (hn : 77 ≤ n ∧ n < 10000) (hu : u + 6 < 1000000) {Q : mO × mHp → Prop} (kk : Q (.inr n, hS (n + 1) (u + 6) I A J B mk sn L xs (va_up X n (.inr (11, []))))) : mq 62 0 [some (.ref 1), some (.ref 18), some (.ref 60), none] [] (hS n u I A J B mk sn L xs X) Q := by
  refine x_al1 (pc := 0) rfl rfl ?_
  refine g_60_1 (pc := 1) (v := nI p) rfl rfl hp ?_
  refine x_is1 (pc := 4) (ml' := [some (.ref 1), some (.ref 18), some (.ref 60), some (.int (nI p))]) rfl rfl ?_
  refine x_al1 (pc := 5) rfl rfl ?_
  refine x_il1 (pc := 6) rfl rfl ?_
  refine x_k (pc := 7) rfl rfl rfl ⟨Nat.le_of_ble_eq_true rfl, Nat.le_of_ble_eq_true rfl, Nat.le_of_ble_eq_true rfl⟩ rfl (k_53_1 (I := I) (A := A) hp8 hm hm5 ?_)
  show mq 62 10 [some (.ref 1), some (.ref 18), some (.ref 60), some (.int (nI p))] [.int (nI (if m = 0 then 0 else 1))] (hS n u I A J B mk sn L xs X) _
  refine x_ifN_eq (pc := 10) (t := 44) rfl rfl (by split <;> omega) (fun c10 => ?_) (fun c10 => ?_)
  · rw [if_neg hm0] at c10
    exact absurd c10 (by decide)
  · refine x_al1 (pc := 13) rfl rfl ?_
    refine g_18_2 (pc := 14) rfl rfl ?_
    refine x_il1 (pc := 17) rfl rfl ?_
    refine al_20 (pc := 18) (q := p) (v := (A 35) p) rfl rfl (by omega) rfl ?_
    refine x_al1 (pc := 19) rfl rfl ?_
    refine g_18_3 (pc := 20) rfl rfl ?_
    refine x_il1 (pc := 23) rfl rfl ?_
    refine al_21 (pc := 24) (q := p) (v := nI m) rfl rfl (by omega) hm ?_
    refine x_iadd (pc := 25) rfl rfl ?_
    refine x_al1 (pc := 26) rfl rfl ?_
    refine g_60_2 (pc := 27) (v := q) rfl rfl hq ?_
    refine x_cmp_eq (pc := 30) (t := 44) rfl rfl rfl (fun c30 => ?_) (fun c30 => ?_)
    · exact absurd c30 hor
    · refine x_thr (pc := 33) rfl rfl hn hu rfl ⟨Nat.le_of_ble_eq_true rfl, Nat.le_of_ble_eq_true rfl⟩ ?_
      exact kk
set_option maxRecDepth 100000 in
set_option maxHeartbeats 4000000 in
theorem k_62n_1_60 (hp : I 29 = nI 255) {Q : mO × mHp → Prop} (kk : Q (.inl none, hS n u I A J B mk sn L xs X)) : mq 62 0 [some (.ref 1), some (.ref 18), some (.ref 60), none] [] (hS n u I A J B mk sn L xs X) Q := by
  refine x_al1 (pc := 0) rfl rfl ?_
  refine g_60_1 (pc := 1) (v := nI 255) rfl rfl hp ?_
  refine x_is1 (pc := 4) (ml' := [some (.ref 1), some (.ref 18), some (.ref 60), some (.int (nI 255))]) rfl rfl ?_
  refine x_al1 (pc := 5) rfl rfl ?_
  refine x_il1 (pc := 6) rfl rfl ?_
  refine x_k (pc := 7) rfl rfl rfl ⟨Nat.le_of_ble_eq_true rfl, Nat.le_of_ble_eq_true rfl, Nat.le_of_ble_eq_true rfl⟩ rfl (k_53b_1 (I := I) (A := A) (Or.inr (by decide)) ?_)
  show mq 62 10 [some (.ref 1), some (.ref 18), some (.ref 60), some (.int (nI 255))] [.int (nI 0)] (hS n u I A J B mk sn L xs X) _
  refine x_ifN_eq (pc := 10) (t := 44) rfl rfl (by decide) (fun _ => ?_) (fun c => absurd c (by decide))
  refine x_ret (pc := 44) rfl rfl ?_
  exact kk
set_option maxRecDepth 100000 in
set_option maxHeartbeats 4000000 in
theorem k_61d_2_53 {p m c : Nat} {q : Int32} (hp : I 26 = nI p) (hp8 : p < 8) (hq : I 27 = q) (hc : I 28 = nI c) (hc4 : c ≤ 4) (hm : A 40 p = nI m) (hm5 : m < 5) (hns : ¬ (¬ m = 0 ∧ A 39 p = q ∧ m = c)) {Q : mO × mHp → Prop} (kk : Q (.inl (some (.int (-1))), hS n u I A J B mk sn L xs X)) : mq 61 0 [some (.ref 23), some (.ref 53), none, none] [] (hS n u I A J B mk sn L xs X) Q := by
  refine x_al1 (pc := 0) rfl rfl ?_
  refine g_53_1 (pc := 1) (v := nI p) rfl rfl hp ?_
  refine x_is1 (pc := 4) (ml' := [some (.ref 23), some (.ref 53), some (.int (nI p)), none]) rfl rfl ?_
  refine x_al1 (pc := 5) rfl rfl ?_
  refine x_il1 (pc := 6) rfl rfl ?_
  refine x_k (pc := 7) rfl rfl rfl ⟨Nat.le_of_ble_eq_true rfl, Nat.le_of_ble_eq_true rfl, Nat.le_of_ble_eq_true rfl⟩ rfl (k_53_2 (I := I) (A := A) hp8 hm hm5 ?_)
  show mq 61 10 [some (.ref 23), some (.ref 53), some (.int (nI p)), none] [.int (nI (if m = 0 then 0 else 1))] (hS n u I A J B mk sn L xs X) _
  refine x_ifN_eq (pc := 10) (t := 46) rfl rfl (by split <;> omega) (fun c10 => ?_) (fun c10 => ?_)
  · refine x_const (pc := 46) (pc' := 47) (.int (nI 0)) rfl rfl rfl rfl ?_
    refine x_is1 (pc := 47) (ml' := [some (.ref 23), some (.ref 53), some (.int (nI p)), some (.int (nI 0))]) rfl rfl ?_
    refine x_il1 (pc := 48) rfl rfl ?_
    refine x_ifN_eq (pc := 49) (t := 61) rfl rfl (by decide) (fun _ => ?_) (fun c => absurd c (by decide))
    refine x_const (pc := 61) (pc' := 62) (.int (-1)) rfl rfl rfl rfl ?_
    refine x_ret (pc := 62) rfl rfl ?_
    exact kk
  · refine x_al1 (pc := 13) rfl rfl ?_
    refine g_23_2 (pc := 14) rfl rfl ?_
    refine x_il1 (pc := 17) rfl rfl ?_
    refine al_25 (pc := 18) (q := p) (v := (A 39) p) rfl rfl (by omega) rfl ?_
    refine x_al1 (pc := 19) rfl rfl ?_
    refine g_53_2 (pc := 20) (v := q) rfl rfl hq ?_
    refine x_cmp_ne (pc := 23) (t := 46) rfl rfl rfl (fun c23 => ?_) (fun c23 => ?_)
    · refine x_const (pc := 46) (pc' := 47) (.int (nI 0)) rfl rfl rfl rfl ?_
      refine x_is1 (pc := 47) (ml' := [some (.ref 23), some (.ref 53), some (.int (nI p)), some (.int (nI 0))]) rfl rfl ?_
      refine x_il1 (pc := 48) rfl rfl ?_
      refine x_ifN_eq (pc := 49) (t := 61) rfl rfl (by decide) (fun _ => ?_) (fun c => absurd c (by decide))
      refine x_const (pc := 61) (pc' := 62) (.int (-1)) rfl rfl rfl rfl ?_
      refine x_ret (pc := 62) rfl rfl ?_
      exact kk
    · refine x_al1 (pc := 26) rfl rfl ?_
      refine g_23_3 (pc := 27) rfl rfl ?_
      refine x_il1 (pc := 30) rfl rfl ?_
      refine al_26 (pc := 31) (q := p) (v := nI m) rfl rfl (by omega) hm ?_
      refine x_al1 (pc := 32) rfl rfl ?_
      refine g_53_0 (pc := 33) rfl rfl ?_
      refine g_54_5 (pc := 36) (v := nI c) rfl rfl hc ?_
      refine x_cmpN_ne (pc := 39) (t := 46) rfl rfl (by omega) (by omega) (fun c39 => ?_) (fun c39 => ?_)
      · refine x_const (pc := 46) (pc' := 47) (.int (nI 0)) rfl rfl rfl rfl ?_
        refine x_is1 (pc := 47) (ml' := [some (.ref 23), some (.ref 53), some (.int (nI p)), some (.int (nI 0))]) rfl rfl ?_
        refine x_il1 (pc := 48) rfl rfl ?_
        refine x_ifN_eq (pc := 49) (t := 61) rfl rfl (by decide) (fun _ => ?_) (fun c => absurd c (by decide))
        refine x_const (pc := 61) (pc' := 62) (.int (-1)) rfl rfl rfl rfl ?_
        refine x_ret (pc := 62) rfl rfl ?_
        exact kk
      · refine absurd ⟨fun e => c10 (if_pos e), ?_, ?_⟩ hns
        · exact c23
        · exact c39
set_option maxRecDepth 100000 in
set_option maxHeartbeats 4000000 in
theorem k_61s_2_53 {p m c : Nat} {q : Int32} (hp : I 26 = nI p) (hp8 : p < 8) (hq : I 27 = q) (hc : I 28 = nI c) (hc4 : c ≤ 4) (hm : A 40 p = nI m) (hm5 : m < 5) (hs1 : ¬ m = 0) (hs2 : A 39 p = q) (hs3 : m = c) {Q : mO × mHp → Prop} (kk : Q (.inl (some (.int (A 41 p))), hS n u I A J B mk sn L xs X)) : mq 61 0 [some (.ref 23), some (.ref 53), none, none] [] (hS n u I A J B mk sn L xs X) Q := by
  refine x_al1 (pc := 0) rfl rfl ?_
  refine g_53_1 (pc := 1) (v := nI p) rfl rfl hp ?_
  refine x_is1 (pc := 4) (ml' := [some (.ref 23), some (.ref 53), some (.int (nI p)), none]) rfl rfl ?_
  refine x_al1 (pc := 5) rfl rfl ?_
  refine x_il1 (pc := 6) rfl rfl ?_
  refine x_k (pc := 7) rfl rfl rfl ⟨Nat.le_of_ble_eq_true rfl, Nat.le_of_ble_eq_true rfl, Nat.le_of_ble_eq_true rfl⟩ rfl (k_53_2 (I := I) (A := A) hp8 hm hm5 ?_)
  show mq 61 10 [some (.ref 23), some (.ref 53), some (.int (nI p)), none] [.int (nI (if m = 0 then 0 else 1))] (hS n u I A J B mk sn L xs X) _
  refine x_ifN_eq (pc := 10) (t := 46) rfl rfl (by split <;> omega) (fun c10 => ?_) (fun c10 => ?_)
  · rw [if_neg hs1] at c10
    exact absurd c10 (by decide)
  · refine x_al1 (pc := 13) rfl rfl ?_
    refine g_23_2 (pc := 14) rfl rfl ?_
    refine x_il1 (pc := 17) rfl rfl ?_
    refine al_25 (pc := 18) (q := p) (v := (A 39) p) rfl rfl (by omega) rfl ?_
    refine x_al1 (pc := 19) rfl rfl ?_
    refine g_53_2 (pc := 20) (v := q) rfl rfl hq ?_
    refine x_cmp_ne (pc := 23) (t := 46) rfl rfl rfl (fun c23 => ?_) (fun c23 => ?_)
    · exact absurd hs2 c23
    · refine x_al1 (pc := 26) rfl rfl ?_
      refine g_23_3 (pc := 27) rfl rfl ?_
      refine x_il1 (pc := 30) rfl rfl ?_
      refine al_26 (pc := 31) (q := p) (v := nI m) rfl rfl (by omega) hm ?_
      refine x_al1 (pc := 32) rfl rfl ?_
      refine g_53_0 (pc := 33) rfl rfl ?_
      refine g_54_5 (pc := 36) (v := nI c) rfl rfl hc ?_
      refine x_cmpN_ne (pc := 39) (t := 46) rfl rfl (by omega) (by omega) (fun c39 => ?_) (fun c39 => ?_)
      · exact absurd hs3 c39
      · refine x_const (pc := 42) (pc' := 43) (.int (nI 1)) rfl rfl rfl rfl ?_
        refine x_step (pc := 43) (pc' := 47) rfl rfl rfl rfl ?_
        refine x_is1 (pc := 47) (ml' := [some (.ref 23), some (.ref 53), some (.int (nI p)), some (.int (nI 1))]) rfl rfl ?_
        refine x_il1 (pc := 48) rfl rfl ?_
        refine x_ifN_eq (pc := 49) (t := 61) rfl rfl (by decide) (fun c => absurd c (by decide)) (fun _ => ?_)
        refine x_al1 (pc := 52) rfl rfl ?_
        refine g_23_4 (pc := 53) rfl rfl ?_
        refine x_il1 (pc := 56) rfl rfl ?_
        refine al_27 (pc := 57) (q := p) (v := (A 41) p) rfl rfl (by omega) rfl ?_
        refine x_step (pc := 58) (pc' := 62) rfl rfl rfl rfl ?_
        refine x_ret (pc := 62) rfl rfl ?_
        exact kk
set_option maxRecDepth 100000 in
set_option maxHeartbeats 4000000 in
theorem k_61n_2_53 (hp : I 26 = nI 255) {Q : mO × mHp → Prop} (kk : Q (.inl (some (.int (-1))), hS n u I A J B mk sn L xs X)) : mq 61 0 [some (.ref 23), some (.ref 53), none, none] [] (hS n u I A J B mk sn L xs X) Q := by
  refine x_al1 (pc := 0) rfl rfl ?_
  refine g_53_1 (pc := 1) (v := nI 255) rfl rfl hp ?_
  refine x_is1 (pc := 4) (ml' := [some (.ref 23), some (.ref 53), some (.int (nI 255)), none]) rfl rfl ?_
  refine x_al1 (pc := 5) rfl rfl ?_
  refine x_il1 (pc := 6) rfl rfl ?_
  refine x_k (pc := 7) rfl rfl rfl ⟨Nat.le_of_ble_eq_true rfl, Nat.le_of_ble_eq_true rfl, Nat.le_of_ble_eq_true rfl⟩ rfl (k_53b_2 (I := I) (A := A) (Or.inr (by decide)) ?_)
  show mq 61 10 [some (.ref 23), some (.ref 53), some (.int (nI 255)), none] [.int (nI 0)] (hS n u I A J B mk sn L xs X) _
  refine x_ifN_eq (pc := 10) (t := 46) rfl rfl (by decide) (fun _ => ?_) (fun c => absurd c (by decide))
  refine x_const (pc := 46) (pc' := 47) (.int (nI 0)) rfl rfl rfl rfl ?_
  refine x_is1 (pc := 47) (ml' := [some (.ref 23), some (.ref 53), some (.int (nI 255)), some (.int (nI 0))]) rfl rfl ?_
  refine x_il1 (pc := 48) rfl rfl ?_
  refine x_ifN_eq (pc := 49) (t := 61) rfl rfl (by decide) (fun _ => ?_) (fun c => absurd c (by decide))
  refine x_const (pc := 61) (pc' := 62) (.int (-1)) rfl rfl rfl rfl ?_
  refine x_ret (pc := 62) rfl rfl ?_
  exact kk
set_option maxRecDepth 100000 in
set_option maxHeartbeats 4000000 in
theorem k_62_2_53 {p m c : Nat} {q : Int32} (hp : I 26 = nI p) (hp8 : p < 8) (hq : I 27 = q) (hc : I 28 = nI c) (hc4 : c ≤ 4) (hm : A 40 p = nI m) (hm5 : m < 5) (hor : m = 0 ∨ A 39 p + nI m = q) {Q : mO × mHp → Prop} (kk : Q (.inl none, hS n u I A J B mk sn L xs X)) : mq 62 0 [some (.ref 1), some (.ref 23), some (.ref 53), none] [] (hS n u I A J B mk sn L xs X) Q := by
  refine x_al1 (pc := 0) rfl rfl ?_
  refine g_53_1 (pc := 1) (v := nI p) rfl rfl hp ?_
  refine x_is1 (pc := 4) (ml' := [some (.ref 1), some (.ref 23), some (.ref 53), some (.int (nI p))]) rfl rfl ?_
  refine x_al1 (pc := 5) rfl rfl ?_
  refine x_il1 (pc := 6) rfl rfl ?_
  refine x_k (pc := 7) rfl rfl rfl ⟨Nat.le_of_ble_eq_true rfl, Nat.le_of_ble_eq_true rfl, Nat.le_of_ble_eq_true rfl⟩ rfl (k_53_2 (I := I) (A := A) hp8 hm hm5 ?_)
  show mq 62 10 [some (.ref 1), some (.ref 23), some (.ref 53), some (.int (nI p))] [.int (nI (if m = 0 then 0 else 1))] (hS n u I A J B mk sn L xs X) _
  refine x_ifN_eq (pc := 10) (t := 44) rfl rfl (by split <;> omega) (fun c10 => ?_) (fun c10 => ?_)
  · refine x_ret (pc := 44) rfl rfl ?_
    exact kk
  · refine x_al1 (pc := 13) rfl rfl ?_
    refine g_23_2 (pc := 14) rfl rfl ?_
    refine x_il1 (pc := 17) rfl rfl ?_
    refine al_25 (pc := 18) (q := p) (v := (A 39) p) rfl rfl (by omega) rfl ?_
    refine x_al1 (pc := 19) rfl rfl ?_
    refine g_23_3 (pc := 20) rfl rfl ?_
    refine x_il1 (pc := 23) rfl rfl ?_
    refine al_26 (pc := 24) (q := p) (v := nI m) rfl rfl (by omega) hm ?_
    refine x_iadd (pc := 25) rfl rfl ?_
    refine x_al1 (pc := 26) rfl rfl ?_
    refine g_53_2 (pc := 27) (v := q) rfl rfl hq ?_
    refine x_cmp_eq (pc := 30) (t := 44) rfl rfl rfl (fun c30 => ?_) (fun c30 => ?_)
    · refine x_ret (pc := 44) rfl rfl ?_
      exact kk
    · rcases hor with h | h
      · exact absurd (if_pos h) c10
      · exact absurd h c30
set_option maxRecDepth 100000 in
set_option maxHeartbeats 4000000 in
theorem k_62x_2_53 {p m c : Nat} {q : Int32} (hp : I 26 = nI p) (hp8 : p < 8) (hq : I 27 = q) (hc : I 28 = nI c) (hc4 : c ≤ 4) (hm : A 40 p = nI m) (hm5 : m < 5) (hm0 : ¬ m = 0) (hor : ¬ A 39 p + nI m = q) (hn : 77 ≤ n ∧ n < 10000) (hu : u + 6 < 1000000) {Q : mO × mHp → Prop} (kk : Q (.inr n, hS (n + 1) (u + 6) I A J B mk sn L xs (va_up X n (.inr (11, []))))) : mq 62 0 [some (.ref 1), some (.ref 23), some (.ref 53), none] [] (hS n u I A J B mk sn L xs X) Q := by
  refine x_al1 (pc := 0) rfl rfl ?_
  refine g_53_1 (pc := 1) (v := nI p) rfl rfl hp ?_
  refine x_is1 (pc := 4) (ml' := [some (.ref 1), some (.ref 23), some (.ref 53), some (.int (nI p))]) rfl rfl ?_
  refine x_al1 (pc := 5) rfl rfl ?_
  refine x_il1 (pc := 6) rfl rfl ?_
  refine x_k (pc := 7) rfl rfl rfl ⟨Nat.le_of_ble_eq_true rfl, Nat.le_of_ble_eq_true rfl, Nat.le_of_ble_eq_true rfl⟩ rfl (k_53_2 (I := I) (A := A) hp8 hm hm5 ?_)
  show mq 62 10 [some (.ref 1), some (.ref 23), some (.ref 53), some (.int (nI p))] [.int (nI (if m = 0 then 0 else 1))] (hS n u I A J B mk sn L xs X) _
  refine x_ifN_eq (pc := 10) (t := 44) rfl rfl (by split <;> omega) (fun c10 => ?_) (fun c10 => ?_)
  · rw [if_neg hm0] at c10
    exact absurd c10 (by decide)
  · refine x_al1 (pc := 13) rfl rfl ?_
    refine g_23_2 (pc := 14) rfl rfl ?_
    refine x_il1 (pc := 17) rfl rfl ?_
    refine al_25 (pc := 18) (q := p) (v := (A 39) p) rfl rfl (by omega) rfl ?_
    refine x_al1 (pc := 19) rfl rfl ?_
    refine g_23_3 (pc := 20) rfl rfl ?_
    refine x_il1 (pc := 23) rfl rfl ?_
    refine al_26 (pc := 24) (q := p) (v := nI m) rfl rfl (by omega) hm ?_
    refine x_iadd (pc := 25) rfl rfl ?_
    refine x_al1 (pc := 26) rfl rfl ?_
    refine g_53_2 (pc := 27) (v := q) rfl rfl hq ?_
    refine x_cmp_eq (pc := 30) (t := 44) rfl rfl rfl (fun c30 => ?_) (fun c30 => ?_)
    · exact absurd c30 hor
    · refine x_thr (pc := 33) rfl rfl hn hu rfl ⟨Nat.le_of_ble_eq_true rfl, Nat.le_of_ble_eq_true rfl⟩ ?_
      exact kk
set_option maxRecDepth 100000 in
set_option maxHeartbeats 4000000 in
theorem k_62n_2_53 (hp : I 26 = nI 255) {Q : mO × mHp → Prop} (kk : Q (.inl none, hS n u I A J B mk sn L xs X)) : mq 62 0 [some (.ref 1), some (.ref 23), some (.ref 53), none] [] (hS n u I A J B mk sn L xs X) Q := by
  refine x_al1 (pc := 0) rfl rfl ?_
  refine g_53_1 (pc := 1) (v := nI 255) rfl rfl hp ?_
  refine x_is1 (pc := 4) (ml' := [some (.ref 1), some (.ref 23), some (.ref 53), some (.int (nI 255))]) rfl rfl ?_
  refine x_al1 (pc := 5) rfl rfl ?_
  refine x_il1 (pc := 6) rfl rfl ?_
  refine x_k (pc := 7) rfl rfl rfl ⟨Nat.le_of_ble_eq_true rfl, Nat.le_of_ble_eq_true rfl, Nat.le_of_ble_eq_true rfl⟩ rfl (k_53b_2 (I := I) (A := A) (Or.inr (by decide)) ?_)
  show mq 62 10 [some (.ref 1), some (.ref 23), some (.ref 53), some (.int (nI 255))] [.int (nI 0)] (hS n u I A J B mk sn L xs X) _
  refine x_ifN_eq (pc := 10) (t := 44) rfl rfl (by decide) (fun _ => ?_) (fun c => absurd c (by decide))
  refine x_ret (pc := 44) rfl rfl ?_
  exact kk
set_option maxRecDepth 100000 in
set_option maxHeartbeats 4000000 in
theorem k_61d_2_60 {p m c : Nat} {q : Int32} (hp : I 29 = nI p) (hp8 : p < 8) (hq : I 30 = q) (hc : I 31 = nI c) (hc4 : c ≤ 4) (hm : A 40 p = nI m) (hm5 : m < 5) (hns : ¬ (¬ m = 0 ∧ A 39 p = q ∧ m = c)) {Q : mO × mHp → Prop} (kk : Q (.inl (some (.int (-1))), hS n u I A J B mk sn L xs X)) : mq 61 0 [some (.ref 23), some (.ref 60), none, none] [] (hS n u I A J B mk sn L xs X) Q := by
  refine x_al1 (pc := 0) rfl rfl ?_
  refine g_60_1 (pc := 1) (v := nI p) rfl rfl hp ?_
  refine x_is1 (pc := 4) (ml' := [some (.ref 23), some (.ref 60), some (.int (nI p)), none]) rfl rfl ?_
  refine x_al1 (pc := 5) rfl rfl ?_
  refine x_il1 (pc := 6) rfl rfl ?_
  refine x_k (pc := 7) rfl rfl rfl ⟨Nat.le_of_ble_eq_true rfl, Nat.le_of_ble_eq_true rfl, Nat.le_of_ble_eq_true rfl⟩ rfl (k_53_2 (I := I) (A := A) hp8 hm hm5 ?_)
  show mq 61 10 [some (.ref 23), some (.ref 60), some (.int (nI p)), none] [.int (nI (if m = 0 then 0 else 1))] (hS n u I A J B mk sn L xs X) _
  refine x_ifN_eq (pc := 10) (t := 46) rfl rfl (by split <;> omega) (fun c10 => ?_) (fun c10 => ?_)
  · refine x_const (pc := 46) (pc' := 47) (.int (nI 0)) rfl rfl rfl rfl ?_
    refine x_is1 (pc := 47) (ml' := [some (.ref 23), some (.ref 60), some (.int (nI p)), some (.int (nI 0))]) rfl rfl ?_
    refine x_il1 (pc := 48) rfl rfl ?_
    refine x_ifN_eq (pc := 49) (t := 61) rfl rfl (by decide) (fun _ => ?_) (fun c => absurd c (by decide))
    refine x_const (pc := 61) (pc' := 62) (.int (-1)) rfl rfl rfl rfl ?_
    refine x_ret (pc := 62) rfl rfl ?_
    exact kk
  · refine x_al1 (pc := 13) rfl rfl ?_
    refine g_23_2 (pc := 14) rfl rfl ?_
    refine x_il1 (pc := 17) rfl rfl ?_
    refine al_25 (pc := 18) (q := p) (v := (A 39) p) rfl rfl (by omega) rfl ?_
    refine x_al1 (pc := 19) rfl rfl ?_
    refine g_60_2 (pc := 20) (v := q) rfl rfl hq ?_
    refine x_cmp_ne (pc := 23) (t := 46) rfl rfl rfl (fun c23 => ?_) (fun c23 => ?_)
    · refine x_const (pc := 46) (pc' := 47) (.int (nI 0)) rfl rfl rfl rfl ?_
      refine x_is1 (pc := 47) (ml' := [some (.ref 23), some (.ref 60), some (.int (nI p)), some (.int (nI 0))]) rfl rfl ?_
      refine x_il1 (pc := 48) rfl rfl ?_
      refine x_ifN_eq (pc := 49) (t := 61) rfl rfl (by decide) (fun _ => ?_) (fun c => absurd c (by decide))
      refine x_const (pc := 61) (pc' := 62) (.int (-1)) rfl rfl rfl rfl ?_
      refine x_ret (pc := 62) rfl rfl ?_
      exact kk
    · refine x_al1 (pc := 26) rfl rfl ?_
      refine g_23_3 (pc := 27) rfl rfl ?_
      refine x_il1 (pc := 30) rfl rfl ?_
      refine al_26 (pc := 31) (q := p) (v := nI m) rfl rfl (by omega) hm ?_
      refine x_al1 (pc := 32) rfl rfl ?_
      refine g_60_0 (pc := 33) rfl rfl ?_
      refine g_61_5 (pc := 36) (v := nI c) rfl rfl hc ?_
      refine x_cmpN_ne (pc := 39) (t := 46) rfl rfl (by omega) (by omega) (fun c39 => ?_) (fun c39 => ?_)
      · refine x_const (pc := 46) (pc' := 47) (.int (nI 0)) rfl rfl rfl rfl ?_
        refine x_is1 (pc := 47) (ml' := [some (.ref 23), some (.ref 60), some (.int (nI p)), some (.int (nI 0))]) rfl rfl ?_
        refine x_il1 (pc := 48) rfl rfl ?_
        refine x_ifN_eq (pc := 49) (t := 61) rfl rfl (by decide) (fun _ => ?_) (fun c => absurd c (by decide))
        refine x_const (pc := 61) (pc' := 62) (.int (-1)) rfl rfl rfl rfl ?_
        refine x_ret (pc := 62) rfl rfl ?_
        exact kk
      · refine absurd ⟨fun e => c10 (if_pos e), ?_, ?_⟩ hns
        · exact c23
        · exact c39
set_option maxRecDepth 100000 in
set_option maxHeartbeats 4000000 in
theorem k_61s_2_60 {p m c : Nat} {q : Int32} (hp : I 29 = nI p) (hp8 : p < 8) (hq : I 30 = q) (hc : I 31 = nI c) (hc4 : c ≤ 4) (hm : A 40 p = nI m) (hm5 : m < 5) (hs1 : ¬ m = 0) (hs2 : A 39 p = q) (hs3 : m = c) {Q : mO × mHp → Prop} (kk : Q (.inl (some (.int (A 41 p))), hS n u I A J B mk sn L xs X)) : mq 61 0 [some (.ref 23), some (.ref 60), none, none] [] (hS n u I A J B mk sn L xs X) Q := by
  refine x_al1 (pc := 0) rfl rfl ?_
  refine g_60_1 (pc := 1) (v := nI p) rfl rfl hp ?_
  refine x_is1 (pc := 4) (ml' := [some (.ref 23), some (.ref 60), some (.int (nI p)), none]) rfl rfl ?_
  refine x_al1 (pc := 5) rfl rfl ?_
  refine x_il1 (pc := 6) rfl rfl ?_
  refine x_k (pc := 7) rfl rfl rfl ⟨Nat.le_of_ble_eq_true rfl, Nat.le_of_ble_eq_true rfl, Nat.le_of_ble_eq_true rfl⟩ rfl (k_53_2 (I := I) (A := A) hp8 hm hm5 ?_)
  show mq 61 10 [some (.ref 23), some (.ref 60), some (.int (nI p)), none] [.int (nI (if m = 0 then 0 else 1))] (hS n u I A J B mk sn L xs X) _
  refine x_ifN_eq (pc := 10) (t := 46) rfl rfl (by split <;> omega) (fun c10 => ?_) (fun c10 => ?_)
  · rw [if_neg hs1] at c10
    exact absurd c10 (by decide)
  · refine x_al1 (pc := 13) rfl rfl ?_
    refine g_23_2 (pc := 14) rfl rfl ?_
    refine x_il1 (pc := 17) rfl rfl ?_
    refine al_25 (pc := 18) (q := p) (v := (A 39) p) rfl rfl (by omega) rfl ?_
    refine x_al1 (pc := 19) rfl rfl ?_
    refine g_60_2 (pc := 20) (v := q) rfl rfl hq ?_
    refine x_cmp_ne (pc := 23) (t := 46) rfl rfl rfl (fun c23 => ?_) (fun c23 => ?_)
    · exact absurd hs2 c23
    · refine x_al1 (pc := 26) rfl rfl ?_
      refine g_23_3 (pc := 27) rfl rfl ?_
      refine x_il1 (pc := 30) rfl rfl ?_
      refine al_26 (pc := 31) (q := p) (v := nI m) rfl rfl (by omega) hm ?_
      refine x_al1 (pc := 32) rfl rfl ?_
      refine g_60_0 (pc := 33) rfl rfl ?_
      refine g_61_5 (pc := 36) (v := nI c) rfl rfl hc ?_
      refine x_cmpN_ne (pc := 39) (t := 46) rfl rfl (by omega) (by omega) (fun c39 => ?_) (fun c39 => ?_)
      · exact absurd hs3 c39
      · refine x_const (pc := 42) (pc' := 43) (.int (nI 1)) rfl rfl rfl rfl ?_
        refine x_step (pc := 43) (pc' := 47) rfl rfl rfl rfl ?_
        refine x_is1 (pc := 47) (ml' := [some (.ref 23), some (.ref 60), some (.int (nI p)), some (.int (nI 1))]) rfl rfl ?_
        refine x_il1 (pc := 48) rfl rfl ?_
        refine x_ifN_eq (pc := 49) (t := 61) rfl rfl (by decide) (fun c => absurd c (by decide)) (fun _ => ?_)
        refine x_al1 (pc := 52) rfl rfl ?_
        refine g_23_4 (pc := 53) rfl rfl ?_
        refine x_il1 (pc := 56) rfl rfl ?_
        refine al_27 (pc := 57) (q := p) (v := (A 41) p) rfl rfl (by omega) rfl ?_
        refine x_step (pc := 58) (pc' := 62) rfl rfl rfl rfl ?_
        refine x_ret (pc := 62) rfl rfl ?_
        exact kk
set_option maxRecDepth 100000 in
set_option maxHeartbeats 4000000 in
theorem k_61n_2_60 (hp : I 29 = nI 255) {Q : mO × mHp → Prop} (kk : Q (.inl (some (.int (-1))), hS n u I A J B mk sn L xs X)) : mq 61 0 [some (.ref 23), some (.ref 60), none, none] [] (hS n u I A J B mk sn L xs X) Q := by
  refine x_al1 (pc := 0) rfl rfl ?_
  refine g_60_1 (pc := 1) (v := nI 255) rfl rfl hp ?_
  refine x_is1 (pc := 4) (ml' := [some (.ref 23), some (.ref 60), some (.int (nI 255)), none]) rfl rfl ?_
  refine x_al1 (pc := 5) rfl rfl ?_
  refine x_il1 (pc := 6) rfl rfl ?_
  refine x_k (pc := 7) rfl rfl rfl ⟨Nat.le_of_ble_eq_true rfl, Nat.le_of_ble_eq_true rfl, Nat.le_of_ble_eq_true rfl⟩ rfl (k_53b_2 (I := I) (A := A) (Or.inr (by decide)) ?_)
  show mq 61 10 [some (.ref 23), some (.ref 60), some (.int (nI 255)), none] [.int (nI 0)] (hS n u I A J B mk sn L xs X) _
  refine x_ifN_eq (pc := 10) (t := 46) rfl rfl (by decide) (fun _ => ?_) (fun c => absurd c (by decide))
  refine x_const (pc := 46) (pc' := 47) (.int (nI 0)) rfl rfl rfl rfl ?_
  refine x_is1 (pc := 47) (ml' := [some (.ref 23), some (.ref 60), some (.int (nI 255)), some (.int (nI 0))]) rfl rfl ?_
  refine x_il1 (pc := 48) rfl rfl ?_
  refine x_ifN_eq (pc := 49) (t := 61) rfl rfl (by decide) (fun _ => ?_) (fun c => absurd c (by decide))
  refine x_const (pc := 61) (pc' := 62) (.int (-1)) rfl rfl rfl rfl ?_
  refine x_ret (pc := 62) rfl rfl ?_
  exact kk
set_option maxRecDepth 100000 in
set_option maxHeartbeats 4000000 in
theorem k_62_2_60 {p m c : Nat} {q : Int32} (hp : I 29 = nI p) (hp8 : p < 8) (hq : I 30 = q) (hc : I 31 = nI c) (hc4 : c ≤ 4) (hm : A 40 p = nI m) (hm5 : m < 5) (hor : m = 0 ∨ A 39 p + nI m = q) {Q : mO × mHp → Prop} (kk : Q (.inl none, hS n u I A J B mk sn L xs X)) : mq 62 0 [some (.ref 1), some (.ref 23), some (.ref 60), none] [] (hS n u I A J B mk sn L xs X) Q := by
  refine x_al1 (pc := 0) rfl rfl ?_
  refine g_60_1 (pc := 1) (v := nI p) rfl rfl hp ?_
  refine x_is1 (pc := 4) (ml' := [some (.ref 1), some (.ref 23), some (.ref 60), some (.int (nI p))]) rfl rfl ?_
  refine x_al1 (pc := 5) rfl rfl ?_
  refine x_il1 (pc := 6) rfl rfl ?_
  refine x_k (pc := 7) rfl rfl rfl ⟨Nat.le_of_ble_eq_true rfl, Nat.le_of_ble_eq_true rfl, Nat.le_of_ble_eq_true rfl⟩ rfl (k_53_2 (I := I) (A := A) hp8 hm hm5 ?_)
  show mq 62 10 [some (.ref 1), some (.ref 23), some (.ref 60), some (.int (nI p))] [.int (nI (if m = 0 then 0 else 1))] (hS n u I A J B mk sn L xs X) _
  refine x_ifN_eq (pc := 10) (t := 44) rfl rfl (by split <;> omega) (fun c10 => ?_) (fun c10 => ?_)
  · refine x_ret (pc := 44) rfl rfl ?_
    exact kk
  · refine x_al1 (pc := 13) rfl rfl ?_
    refine g_23_2 (pc := 14) rfl rfl ?_
    refine x_il1 (pc := 17) rfl rfl ?_
    refine al_25 (pc := 18) (q := p) (v := (A 39) p) rfl rfl (by omega) rfl ?_
    refine x_al1 (pc := 19) rfl rfl ?_
    refine g_23_3 (pc := 20) rfl rfl ?_
    refine x_il1 (pc := 23) rfl rfl ?_
    refine al_26 (pc := 24) (q := p) (v := nI m) rfl rfl (by omega) hm ?_
    refine x_iadd (pc := 25) rfl rfl ?_
    refine x_al1 (pc := 26) rfl rfl ?_
    refine g_60_2 (pc := 27) (v := q) rfl rfl hq ?_
    refine x_cmp_eq (pc := 30) (t := 44) rfl rfl rfl (fun c30 => ?_) (fun c30 => ?_)
    · refine x_ret (pc := 44) rfl rfl ?_
      exact kk
    · rcases hor with h | h
      · exact absurd (if_pos h) c10
      · exact absurd h c30
set_option maxRecDepth 100000 in
set_option maxHeartbeats 4000000 in
theorem k_62x_2_60 {p m c : Nat} {q : Int32} (hp : I 29 = nI p) (hp8 : p < 8) (hq : I 30 = q) (hc : I 31 = nI c) (hc4 : c ≤ 4) (hm : A 40 p = nI m) (hm5 : m < 5) (hm0 : ¬ m = 0) (hor : ¬ A 39 p + nI m = q) (hn : 77 ≤ n ∧ n < 10000) (hu : u + 6 < 1000000) {Q : mO × mHp → Prop} (kk : Q (.inr n, hS (n + 1) (u + 6) I A J B mk sn L xs (va_up X n (.inr (11, []))))) : mq 62 0 [some (.ref 1), some (.ref 23), some (.ref 60), none] [] (hS n u I A J B mk sn L xs X) Q := by
  refine x_al1 (pc := 0) rfl rfl ?_
  refine g_60_1 (pc := 1) (v := nI p) rfl rfl hp ?_
  refine x_is1 (pc := 4) (ml' := [some (.ref 1), some (.ref 23), some (.ref 60), some (.int (nI p))]) rfl rfl ?_
  refine x_al1 (pc := 5) rfl rfl ?_
  refine x_il1 (pc := 6) rfl rfl ?_
  refine x_k (pc := 7) rfl rfl rfl ⟨Nat.le_of_ble_eq_true rfl, Nat.le_of_ble_eq_true rfl, Nat.le_of_ble_eq_true rfl⟩ rfl (k_53_2 (I := I) (A := A) hp8 hm hm5 ?_)
  show mq 62 10 [some (.ref 1), some (.ref 23), some (.ref 60), some (.int (nI p))] [.int (nI (if m = 0 then 0 else 1))] (hS n u I A J B mk sn L xs X) _
  refine x_ifN_eq (pc := 10) (t := 44) rfl rfl (by split <;> omega) (fun c10 => ?_) (fun c10 => ?_)
  · rw [if_neg hm0] at c10
    exact absurd c10 (by decide)
  · refine x_al1 (pc := 13) rfl rfl ?_
    refine g_23_2 (pc := 14) rfl rfl ?_
    refine x_il1 (pc := 17) rfl rfl ?_
    refine al_25 (pc := 18) (q := p) (v := (A 39) p) rfl rfl (by omega) rfl ?_
    refine x_al1 (pc := 19) rfl rfl ?_
    refine g_23_3 (pc := 20) rfl rfl ?_
    refine x_il1 (pc := 23) rfl rfl ?_
    refine al_26 (pc := 24) (q := p) (v := nI m) rfl rfl (by omega) hm ?_
    refine x_iadd (pc := 25) rfl rfl ?_
    refine x_al1 (pc := 26) rfl rfl ?_
    refine g_60_2 (pc := 27) (v := q) rfl rfl hq ?_
    refine x_cmp_eq (pc := 30) (t := 44) rfl rfl rfl (fun c30 => ?_) (fun c30 => ?_)
    · exact absurd c30 hor
    · refine x_thr (pc := 33) rfl rfl hn hu rfl ⟨Nat.le_of_ble_eq_true rfl, Nat.le_of_ble_eq_true rfl⟩ ?_
      exact kk
set_option maxRecDepth 100000 in
set_option maxHeartbeats 4000000 in
theorem k_62n_2_60 (hp : I 29 = nI 255) {Q : mO × mHp → Prop} (kk : Q (.inl none, hS n u I A J B mk sn L xs X)) : mq 62 0 [some (.ref 1), some (.ref 23), some (.ref 60), none] [] (hS n u I A J B mk sn L xs X) Q := by
  refine x_al1 (pc := 0) rfl rfl ?_
  refine g_60_1 (pc := 1) (v := nI 255) rfl rfl hp ?_
  refine x_is1 (pc := 4) (ml' := [some (.ref 1), some (.ref 23), some (.ref 60), some (.int (nI 255))]) rfl rfl ?_
  refine x_al1 (pc := 5) rfl rfl ?_
  refine x_il1 (pc := 6) rfl rfl ?_
  refine x_k (pc := 7) rfl rfl rfl ⟨Nat.le_of_ble_eq_true rfl, Nat.le_of_ble_eq_true rfl, Nat.le_of_ble_eq_true rfl⟩ rfl (k_53b_2 (I := I) (A := A) (Or.inr (by decide)) ?_)
  show mq 62 10 [some (.ref 1), some (.ref 23), some (.ref 60), some (.int (nI 255))] [.int (nI 0)] (hS n u I A J B mk sn L xs X) _
  refine x_ifN_eq (pc := 10) (t := 44) rfl rfl (by decide) (fun _ => ?_) (fun c => absurd c (by decide))
  refine x_ret (pc := 44) rfl rfl ?_
  exact kk
set_option maxRecDepth 100000 in
set_option maxHeartbeats 4000000 in
theorem k_58x_53 (h0 : I 0 = nI 0) {a p q : Int32} (hn : 77 ≤ n ∧ n < 10000) (hu : u + 6 < 1000000) {Q : mO × mHp → Prop} (kk : Q (.inr n, hS (n + 1) (u + 6) (va_up I 31 (nI 0)) A J B 60 53 L xs (va_up X n (.inr (9, []))))) : mq 58 0 [some (.ref 1), some (.int a), some (.int p), some (.int q), none, none, none, none] [] (hS n u I A J B 53 60 L xs X) Q := by
  refine x_al1 (pc := 0) rfl rfl ?_
  refine x_k (pc := 1) rfl rfl rfl ⟨Nat.le_of_ble_eq_true rfl, Nat.le_of_ble_eq_true rfl, Nat.le_of_ble_eq_true rfl⟩ rfl (k_59_53 (I := I) (A := A) ?_)
  show mq 58 4 [some (.ref 1), some (.int a), some (.int p), some (.int q), none, none, none, none] [.ref 53] (hS n u (va_up I 31 (nI 0)) A J B 60 53 L xs X) _
  refine x_as2 (pc := 4) (ml' := [some (.ref 1), some (.int a), some (.int p), some (.int q), some (.ref 53), none, none, none]) rfl rfl ?_
  refine x_al1 (pc := 6) rfl rfl ?_
  refine x_k (pc := 7) rfl rfl rfl ⟨Nat.le_of_ble_eq_true rfl, Nat.le_of_ble_eq_true rfl, Nat.le_of_ble_eq_true rfl⟩ rfl (k_60x (I := va_up I 31 (nI 0)) ((show (va_up I 31 (nI 0)) 0 = I 0 from rfl).trans h0) hn hu (mK_x rfl kk))
set_option maxRecDepth 100000 in
set_option maxHeartbeats 4000000 in
theorem k_58b_53 {S : DS} {mq0 c : Nat} (hD : kD mq0 S I A) (ho : dO S = false) {a p q : Int32} (hc : I 28 = nI c) (hc4 : c ≤ 4) (hx : (a < 0 ∨ nI 3 ≤ a) ∨ (p < -1 ∨ nI 8 ≤ p) ∨ (¬ p = -1 ∧ q < 0) ∨ c = 0) (hn : 77 ≤ n ∧ n < 10000) (hu : u + 6 < 1000000) {Q : mO × mHp → Prop} (kk : Q (.inr n, hS (n + 1) (u + 6) (va_up I 31 (nI 0)) A J B 60 53 L xs (va_up X n (.inr (10, []))))) : mq 58 0 [some (.ref 1), some (.int a), some (.int p), some (.int q), none, none, none, none] [] (hS n u I A J B 53 60 L xs X) Q := by
  refine x_al1 (pc := 0) rfl rfl ?_
  refine x_k (pc := 1) rfl rfl rfl ⟨Nat.le_of_ble_eq_true rfl, Nat.le_of_ble_eq_true rfl, Nat.le_of_ble_eq_true rfl⟩ rfl (k_59_53 (I := I) (A := A) ?_)
  show mq 58 4 [some (.ref 1), some (.int a), some (.int p), some (.int q), none, none, none, none] [.ref 53] (hS n u (va_up I 31 (nI 0)) A J B 60 53 L xs X) _
  refine x_as2 (pc := 4) (ml' := [some (.ref 1), some (.int a), some (.int p), some (.int q), some (.ref 53), none, none, none]) rfl rfl ?_
  refine x_al1 (pc := 6) rfl rfl ?_
  refine x_k (pc := 7) rfl rfl rfl ⟨Nat.le_of_ble_eq_true rfl, Nat.le_of_ble_eq_true rfl, Nat.le_of_ble_eq_true rfl⟩ rfl (k_60 (I := va_up I 31 (nI 0)) ((show (va_up I 31 (nI 0)) 0 = I 0 from rfl).trans (kD_1 hD ho)) ?_)
  show mq 58 10 [some (.ref 1), some (.int a), some (.int p), some (.int q), some (.ref 53), none, none, none] [] (hS n u (va_up I 31 (nI 0)) A J B 60 53 L xs X) _
  refine x_il1 (pc := 10) rfl rfl ?_
  refine x_const (pc := 11) (pc' := 12) (.int (-1)) rfl rfl rfl rfl ?_
  refine x_cmp_ne (pc := 12) (t := 19) rfl rfl rfl (fun c12 => ?_) (fun c12 => ?_)
  · refine x_const (pc := 19) (pc' := 20) (.int (nI 0)) rfl rfl rfl rfl ?_
    refine x_is2 (pc := 20) (ml' := [some (.ref 1), some (.int a), some (.int p), some (.int q), some (.ref 53), some (.int (nI 0)), none, none]) rfl rfl ?_
    refine x_il1 (pc := 22) rfl rfl ?_
    refine x_if_lt (pc := 23) (t := 62) rfl rfl rfl (fun c23 => ?_) (fun c23 => ?_)
    · refine x_thr (pc := 62) rfl rfl hn hu rfl ⟨Nat.le_of_ble_eq_true rfl, Nat.le_of_ble_eq_true rfl⟩ ?_
      exact kk
    · refine x_il1 (pc := 26) rfl rfl ?_
      refine x_const (pc := 27) (pc' := 28) (.int (nI 3)) rfl rfl rfl rfl ?_
      refine x_cmp_ge (pc := 28) (t := 62) rfl rfl rfl (fun c28 => ?_) (fun c28 => ?_)
      · refine x_thr (pc := 62) rfl rfl hn hu rfl ⟨Nat.le_of_ble_eq_true rfl, Nat.le_of_ble_eq_true rfl⟩ ?_
        exact kk
      · refine x_il1 (pc := 31) rfl rfl ?_
        refine x_const (pc := 32) (pc' := 33) (.int (-1)) rfl rfl rfl rfl ?_
        refine x_cmp_lt (pc := 33) (t := 62) rfl rfl rfl (fun c33 => ?_) (fun c33 => ?_)
        · refine x_thr (pc := 62) rfl rfl hn hu rfl ⟨Nat.le_of_ble_eq_true rfl, Nat.le_of_ble_eq_true rfl⟩ ?_
          exact kk
        · refine x_il1 (pc := 36) rfl rfl ?_
          refine x_const (pc := 37) (pc' := 39) (.int (nI 8)) rfl rfl rfl rfl ?_
          refine x_cmp_ge (pc := 39) (t := 62) rfl rfl rfl (fun c39 => ?_) (fun c39 => ?_)
          · refine x_thr (pc := 62) rfl rfl hn hu rfl ⟨Nat.le_of_ble_eq_true rfl, Nat.le_of_ble_eq_true rfl⟩ ?_
            exact kk
          · refine x_il2 (pc := 42) rfl rfl ?_
            refine x_ifN_ne (pc := 44) (t := 51) rfl rfl (by decide) (fun c => absurd c (by decide)) (fun _ => ?_)
            refine x_il1 (pc := 47) rfl rfl ?_
            refine x_if_lt (pc := 48) (t := 62) rfl rfl rfl (fun c48 => ?_) (fun c48 => ?_)
            · refine x_thr (pc := 62) rfl rfl hn hu rfl ⟨Nat.le_of_ble_eq_true rfl, Nat.le_of_ble_eq_true rfl⟩ ?_
              exact kk
            · refine x_al2 (pc := 51) rfl rfl ?_
              refine g_53_0 (pc := 53) rfl rfl ?_
              refine g_54_5 (pc := 56) (v := nI c) rfl rfl hc ?_
              refine x_ifN_ne (pc := 59) (t := 72) rfl rfl (by omega) (fun c59 => ?_) (fun c59 => ?_)
              · rcases hx with (h | h) | (h | h) | h | h
                all_goals first | exact absurd h c23 | exact absurd h c28 | exact absurd h c33 | exact absurd h c39 | exact absurd h c59 | exact absurd h.2 c48 | exact absurd c12 h.1
              · refine x_thr (pc := 62) rfl rfl hn hu rfl ⟨Nat.le_of_ble_eq_true rfl, Nat.le_of_ble_eq_true rfl⟩ ?_
                exact kk
  · refine x_const (pc := 15) (pc' := 16) (.int (nI 1)) rfl rfl rfl rfl ?_
    refine x_step (pc := 16) (pc' := 20) rfl rfl rfl rfl ?_
    refine x_is2 (pc := 20) (ml' := [some (.ref 1), some (.int a), some (.int p), some (.int q), some (.ref 53), some (.int (nI 1)), none, none]) rfl rfl ?_
    refine x_il1 (pc := 22) rfl rfl ?_
    refine x_if_lt (pc := 23) (t := 62) rfl rfl rfl (fun c23 => ?_) (fun c23 => ?_)
    · refine x_thr (pc := 62) rfl rfl hn hu rfl ⟨Nat.le_of_ble_eq_true rfl, Nat.le_of_ble_eq_true rfl⟩ ?_
      exact kk
    · refine x_il1 (pc := 26) rfl rfl ?_
      refine x_const (pc := 27) (pc' := 28) (.int (nI 3)) rfl rfl rfl rfl ?_
      refine x_cmp_ge (pc := 28) (t := 62) rfl rfl rfl (fun c28 => ?_) (fun c28 => ?_)
      · refine x_thr (pc := 62) rfl rfl hn hu rfl ⟨Nat.le_of_ble_eq_true rfl, Nat.le_of_ble_eq_true rfl⟩ ?_
        exact kk
      · refine x_il1 (pc := 31) rfl rfl ?_
        refine x_const (pc := 32) (pc' := 33) (.int (-1)) rfl rfl rfl rfl ?_
        refine x_cmp_lt (pc := 33) (t := 62) rfl rfl rfl (fun c33 => ?_) (fun c33 => ?_)
        · refine x_thr (pc := 62) rfl rfl hn hu rfl ⟨Nat.le_of_ble_eq_true rfl, Nat.le_of_ble_eq_true rfl⟩ ?_
          exact kk
        · refine x_il1 (pc := 36) rfl rfl ?_
          refine x_const (pc := 37) (pc' := 39) (.int (nI 8)) rfl rfl rfl rfl ?_
          refine x_cmp_ge (pc := 39) (t := 62) rfl rfl rfl (fun c39 => ?_) (fun c39 => ?_)
          · refine x_thr (pc := 62) rfl rfl hn hu rfl ⟨Nat.le_of_ble_eq_true rfl, Nat.le_of_ble_eq_true rfl⟩ ?_
            exact kk
          · refine x_il2 (pc := 42) rfl rfl ?_
            refine x_ifN_ne (pc := 44) (t := 51) rfl rfl (by decide) (fun _ => ?_) (fun c => absurd c (by decide))
            refine x_al2 (pc := 51) rfl rfl ?_
            refine g_53_0 (pc := 53) rfl rfl ?_
            refine g_54_5 (pc := 56) (v := nI c) rfl rfl hc ?_
            refine x_ifN_ne (pc := 59) (t := 72) rfl rfl (by omega) (fun c59 => ?_) (fun c59 => ?_)
            · rcases hx with (h | h) | (h | h) | h | h
              all_goals first | exact absurd h c23 | exact absurd h c28 | exact absurd h c33 | exact absurd h c39 | exact absurd h c59 | exact absurd h.2 c48 | exact absurd c12 h.1
            · refine x_thr (pc := 62) rfl rfl hn hu rfl ⟨Nat.le_of_ble_eq_true rfl, Nat.le_of_ble_eq_true rfl⟩ ?_
              exact kk
set_option maxRecDepth 100000 in
set_option maxHeartbeats 4000000 in
theorem k_58s_53_0 {S : DS} {mq0 p m : Nat} {q : Int32} {l : List R5} (hD : kD mq0 S I A) (ho : dO S = false) (hC : BC 2 I A l) (hl1 : 1 ≤ l.length) (hl4 : l.length ≤ 4) (hp8 : p < 8) (hq0 : ¬ q < 0) (hm : A 32 p = nI m) (hm5 : m < 5) (hs1 : ¬ m = 0) (hs2 : A 31 p = q) (hs3 : m = l.length) {o : Nat} (ho9 : A 33 p = nI o) (ho31 : o < 2 ^ 31) {Q : mO × mHp → Prop} (kk : Q (.inl (some (.int (A 33 p))), hS n u (va_up (va_up (va_up I 31 (nI 0)) 26 (nI p)) 27 q) A J B 60 53 L xs X)) : mq 58 0 [some (.ref 1), some (.int (nI 0)), some (.int (nI p)), some (.int q), none, none, none, none] [] (hS n u I A J B 53 60 L xs X) Q := by
  refine x_al1 (pc := 0) rfl rfl ?_
  refine x_k (pc := 1) rfl rfl rfl ⟨Nat.le_of_ble_eq_true rfl, Nat.le_of_ble_eq_true rfl, Nat.le_of_ble_eq_true rfl⟩ rfl (k_59_53 (I := I) (A := A) ?_)
  show mq 58 4 [some (.ref 1), some (.int (nI 0)), some (.int (nI p)), some (.int q), none, none, none, none] [.ref 53] (hS n u (va_up I 31 (nI 0)) A J B 60 53 L xs X) _
  refine x_as2 (pc := 4) (ml' := [some (.ref 1), some (.int (nI 0)), some (.int (nI p)), some (.int q), some (.ref 53), none, none, none]) rfl rfl ?_
  refine x_al1 (pc := 6) rfl rfl ?_
  refine x_k (pc := 7) rfl rfl rfl ⟨Nat.le_of_ble_eq_true rfl, Nat.le_of_ble_eq_true rfl, Nat.le_of_ble_eq_true rfl⟩ rfl (k_60 (I := va_up I 31 (nI 0)) ((show (va_up I 31 (nI 0)) 0 = I 0 from rfl).trans (kD_1 hD ho)) ?_)
  show mq 58 10 [some (.ref 1), some (.int (nI 0)), some (.int (nI p)), some (.int q), some (.ref 53), none, none, none] [] (hS n u (va_up I 31 (nI 0)) A J B 60 53 L xs X) _
  refine x_il1 (pc := 10) rfl rfl ?_
  refine x_const (pc := 11) (pc' := 12) (.int (-1)) rfl rfl rfl rfl ?_
  refine x_cmp_ne (pc := 12) (t := 19) rfl rfl rfl (fun c12 => ?_) (fun c12 => ?_)
  · refine x_const (pc := 19) (pc' := 20) (.int (nI 0)) rfl rfl rfl rfl ?_
    refine x_is2 (pc := 20) (ml' := [some (.ref 1), some (.int (nI 0)), some (.int (nI p)), some (.int q), some (.ref 53), some (.int (nI 0)), none, none]) rfl rfl ?_
    refine x_il1 (pc := 22) rfl rfl ?_
    refine x_ifN_lt (pc := 23) (t := 62) rfl rfl (by omega) ?_
    refine x_il1 (pc := 26) rfl rfl ?_
    refine x_const (pc := 27) (pc' := 28) (.int (nI 3)) rfl rfl rfl rfl ?_
    refine x_cmpN_ge (pc := 28) (t := 62) rfl rfl (by decide) (by decide) (fun c => absurd c (by decide)) (fun _ => ?_)
    refine x_il1 (pc := 31) rfl rfl ?_
    refine x_const (pc := 32) (pc' := 33) (.int (-1)) rfl rfl rfl rfl ?_
    refine x_cmp_lt (pc := 33) (t := 62) rfl rfl rfl (fun c33 => ?_) (fun c33 => ?_)
    · exact absurd c33 (nI_m1lt hp8)
    · refine x_il1 (pc := 36) rfl rfl ?_
      refine x_const (pc := 37) (pc' := 39) (.int (nI 8)) rfl rfl rfl rfl ?_
      refine x_cmpN_ge (pc := 39) (t := 62) rfl rfl (by omega) (by omega) (fun c39 => ?_) (fun c39 => ?_)
      · omega
      · refine x_il2 (pc := 42) rfl rfl ?_
        refine x_ifN_ne (pc := 44) (t := 51) rfl rfl (by decide) (fun c => absurd c (by decide)) (fun _ => ?_)
        refine x_il1 (pc := 47) rfl rfl ?_
        refine x_if_lt (pc := 48) (t := 62) rfl rfl rfl (fun c48 => ?_) (fun c48 => ?_)
        · exact absurd c48 hq0
        · refine x_al2 (pc := 51) rfl rfl ?_
          refine g_53_0 (pc := 53) rfl rfl ?_
          refine g_54_5 (pc := 56) (v := nI l.length) rfl rfl hC.1 ?_
          refine x_ifN_ne (pc := 59) (t := 72) rfl rfl (by omega) (fun c59 => ?_) (fun c59 => ?_)
          · refine x_al2 (pc := 72) rfl rfl ?_
            refine x_il2 (pc := 74) rfl rfl ?_
            refine x_ifN_eq (pc := 76) (t := 85) rfl rfl (by decide) (fun _ => ?_) (fun c => absurd c (by decide))
            refine x_il1 (pc := 85) rfl rfl ?_
            refine x_il2 (pc := 86) rfl rfl ?_
            refine x_ifN_eq (pc := 88) (t := 95) rfl rfl (by decide) (fun _ => ?_) (fun c => absurd c (by decide))
            refine x_il1 (pc := 95) rfl rfl ?_
            refine x_k (pc := 96) rfl rfl rfl ⟨Nat.le_of_ble_eq_true rfl, Nat.le_of_ble_eq_true rfl, Nat.le_of_ble_eq_true rfl⟩ rfl (mq_k (c_43_2 (I := va_up I 31 (nI 0)) (A := A) _ _) ?_)
            show mq 58 99 [some (.ref 1), some (.int (nI 0)), some (.int (nI p)), some (.int q), some (.ref 53), some (.int (nI 0)), none, none] [] (hS n u (va_up (va_up (va_up I 31 (nI 0)) 26 (nI p)) 27 q) A J B 60 53 L xs X) _
            refine x_al1 (pc := 99) rfl rfl ?_
            refine g_1_2 (pc := 100) rfl rfl ?_
            refine x_il1 (pc := 103) rfl rfl ?_
            refine aal (pc := 104) (q := 0) (a := 13) rfl rfl (by decide) rfl ?_
            refine x_al2 (pc := 105) rfl rfl ?_
            refine x_k (pc := 107) rfl rfl rfl ⟨Nat.le_of_ble_eq_true rfl, Nat.le_of_ble_eq_true rfl, Nat.le_of_ble_eq_true rfl⟩ rfl (k_61s_0_53 (I := va_up (va_up (va_up I 31 (nI 0)) 26 (nI p)) 27 q) (A := A) (p := p) (q := q) rfl hp8 rfl hC.1 hl4 hm hm5 hs1 hs2 hs3 ?_)
            show mq 58 110 [some (.ref 1), some (.int (nI 0)), some (.int (nI p)), some (.int q), some (.ref 53), some (.int (nI 0)), none, none] [.int (A 33 p)] (hS n u (va_up (va_up (va_up I 31 (nI 0)) 26 (nI p)) 27 q) A J B 60 53 L xs X) _
            refine x_top (y := nI o) (ho9) ?_
            refine x_is2 (pc := 110) (ml' := [some (.ref 1), some (.int (nI 0)), some (.int (nI p)), some (.int q), some (.ref 53), some (.int (nI 0)), some (.int (nI o)), none]) rfl rfl ?_
            refine x_il2 (pc := 112) rfl rfl ?_
            refine x_ifN_lt (pc := 114) (t := 120) rfl rfl (by omega) ?_
            refine x_il2 (pc := 117) rfl rfl ?_
            refine x_ret (pc := 119) rfl rfl ?_
            rw [← ho9]
            exact kk
          · omega
  · exact absurd c12 (nI_m1 (by omega))
set_option maxRecDepth 100000 in
set_option maxHeartbeats 4000000 in
theorem k_58o_53_0 {S : DS} {mq0 p m : Nat} {q : Int32} {l : List R5} (hD : kD mq0 S I A) (ho : dO S = false) (hC : BC 2 I A l) (hl1 : 1 ≤ l.length) (hl4 : l.length ≤ 4) (hp8 : p < 8) (hq0 : ¬ q < 0) (hm : A 32 p = nI m) (hm5 : m < 5) (hns : ¬ (¬ m = 0 ∧ A 31 p = q ∧ m = l.length)) (hm0 : ¬ m = 0) (hor : ¬ A 31 p + nI m = q) (hn : 77 ≤ n ∧ n < 10000) (hu : u + 6 < 1000000) {Q : mO × mHp → Prop} (kk : Q (.inr n, hS (n + 1) (u + 6) (va_up (va_up (va_up I 31 (nI 0)) 26 (nI p)) 27 q) A J B 60 53 L xs (va_up X n (.inr (11, []))))) : mq 58 0 [some (.ref 1), some (.int (nI 0)), some (.int (nI p)), some (.int q), none, none, none, none] [] (hS n u I A J B 53 60 L xs X) Q := by
  refine x_al1 (pc := 0) rfl rfl ?_
  refine x_k (pc := 1) rfl rfl rfl ⟨Nat.le_of_ble_eq_true rfl, Nat.le_of_ble_eq_true rfl, Nat.le_of_ble_eq_true rfl⟩ rfl (k_59_53 (I := I) (A := A) ?_)
  show mq 58 4 [some (.ref 1), some (.int (nI 0)), some (.int (nI p)), some (.int q), none, none, none, none] [.ref 53] (hS n u (va_up I 31 (nI 0)) A J B 60 53 L xs X) _
  refine x_as2 (pc := 4) (ml' := [some (.ref 1), some (.int (nI 0)), some (.int (nI p)), some (.int q), some (.ref 53), none, none, none]) rfl rfl ?_
  refine x_al1 (pc := 6) rfl rfl ?_
  refine x_k (pc := 7) rfl rfl rfl ⟨Nat.le_of_ble_eq_true rfl, Nat.le_of_ble_eq_true rfl, Nat.le_of_ble_eq_true rfl⟩ rfl (k_60 (I := va_up I 31 (nI 0)) ((show (va_up I 31 (nI 0)) 0 = I 0 from rfl).trans (kD_1 hD ho)) ?_)
  show mq 58 10 [some (.ref 1), some (.int (nI 0)), some (.int (nI p)), some (.int q), some (.ref 53), none, none, none] [] (hS n u (va_up I 31 (nI 0)) A J B 60 53 L xs X) _
  refine x_il1 (pc := 10) rfl rfl ?_
  refine x_const (pc := 11) (pc' := 12) (.int (-1)) rfl rfl rfl rfl ?_
  refine x_cmp_ne (pc := 12) (t := 19) rfl rfl rfl (fun c12 => ?_) (fun c12 => ?_)
  · refine x_const (pc := 19) (pc' := 20) (.int (nI 0)) rfl rfl rfl rfl ?_
    refine x_is2 (pc := 20) (ml' := [some (.ref 1), some (.int (nI 0)), some (.int (nI p)), some (.int q), some (.ref 53), some (.int (nI 0)), none, none]) rfl rfl ?_
    refine x_il1 (pc := 22) rfl rfl ?_
    refine x_ifN_lt (pc := 23) (t := 62) rfl rfl (by omega) ?_
    refine x_il1 (pc := 26) rfl rfl ?_
    refine x_const (pc := 27) (pc' := 28) (.int (nI 3)) rfl rfl rfl rfl ?_
    refine x_cmpN_ge (pc := 28) (t := 62) rfl rfl (by decide) (by decide) (fun c => absurd c (by decide)) (fun _ => ?_)
    refine x_il1 (pc := 31) rfl rfl ?_
    refine x_const (pc := 32) (pc' := 33) (.int (-1)) rfl rfl rfl rfl ?_
    refine x_cmp_lt (pc := 33) (t := 62) rfl rfl rfl (fun c33 => ?_) (fun c33 => ?_)
    · exact absurd c33 (nI_m1lt hp8)
    · refine x_il1 (pc := 36) rfl rfl ?_
      refine x_const (pc := 37) (pc' := 39) (.int (nI 8)) rfl rfl rfl rfl ?_
      refine x_cmpN_ge (pc := 39) (t := 62) rfl rfl (by omega) (by omega) (fun c39 => ?_) (fun c39 => ?_)
      · omega
      · refine x_il2 (pc := 42) rfl rfl ?_
        refine x_ifN_ne (pc := 44) (t := 51) rfl rfl (by decide) (fun c => absurd c (by decide)) (fun _ => ?_)
        refine x_il1 (pc := 47) rfl rfl ?_
        refine x_if_lt (pc := 48) (t := 62) rfl rfl rfl (fun c48 => ?_) (fun c48 => ?_)
        · exact absurd c48 hq0
        · refine x_al2 (pc := 51) rfl rfl ?_
          refine g_53_0 (pc := 53) rfl rfl ?_
          refine g_54_5 (pc := 56) (v := nI l.length) rfl rfl hC.1 ?_
          refine x_ifN_ne (pc := 59) (t := 72) rfl rfl (by omega) (fun c59 => ?_) (fun c59 => ?_)
          · refine x_al2 (pc := 72) rfl rfl ?_
            refine x_il2 (pc := 74) rfl rfl ?_
            refine x_ifN_eq (pc := 76) (t := 85) rfl rfl (by decide) (fun _ => ?_) (fun c => absurd c (by decide))
            refine x_il1 (pc := 85) rfl rfl ?_
            refine x_il2 (pc := 86) rfl rfl ?_
            refine x_ifN_eq (pc := 88) (t := 95) rfl rfl (by decide) (fun _ => ?_) (fun c => absurd c (by decide))
            refine x_il1 (pc := 95) rfl rfl ?_
            refine x_k (pc := 96) rfl rfl rfl ⟨Nat.le_of_ble_eq_true rfl, Nat.le_of_ble_eq_true rfl, Nat.le_of_ble_eq_true rfl⟩ rfl (mq_k (c_43_2 (I := va_up I 31 (nI 0)) (A := A) _ _) ?_)
            show mq 58 99 [some (.ref 1), some (.int (nI 0)), some (.int (nI p)), some (.int q), some (.ref 53), some (.int (nI 0)), none, none] [] (hS n u (va_up (va_up (va_up I 31 (nI 0)) 26 (nI p)) 27 q) A J B 60 53 L xs X) _
            refine x_al1 (pc := 99) rfl rfl ?_
            refine g_1_2 (pc := 100) rfl rfl ?_
            refine x_il1 (pc := 103) rfl rfl ?_
            refine aal (pc := 104) (q := 0) (a := 13) rfl rfl (by decide) rfl ?_
            refine x_al2 (pc := 105) rfl rfl ?_
            refine x_k (pc := 107) rfl rfl rfl ⟨Nat.le_of_ble_eq_true rfl, Nat.le_of_ble_eq_true rfl, Nat.le_of_ble_eq_true rfl⟩ rfl (k_61d_0_53 (I := va_up (va_up (va_up I 31 (nI 0)) 26 (nI p)) 27 q) (A := A) (p := p) (q := q) rfl hp8 rfl hC.1 hl4 hm hm5 hns ?_)
            show mq 58 110 [some (.ref 1), some (.int (nI 0)), some (.int (nI p)), some (.int q), some (.ref 53), some (.int (nI 0)), none, none] [.int (-1)] (hS n u (va_up (va_up (va_up I 31 (nI 0)) 26 (nI p)) 27 q) A J B 60 53 L xs X) _
            refine x_is2 (pc := 110) (ml' := [some (.ref 1), some (.int (nI 0)), some (.int (nI p)), some (.int q), some (.ref 53), some (.int (nI 0)), some (.int (-1)), none]) rfl rfl ?_
            refine x_il2 (pc := 112) rfl rfl ?_
            refine x_if_lt (pc := 114) (t := 120) rfl rfl rfl (fun _ => ?_) (fun c => absurd (by decide) c)
            refine x_al1 (pc := 120) rfl rfl ?_
            refine x_al1 (pc := 121) rfl rfl ?_
            refine g_1_2 (pc := 122) rfl rfl ?_
            refine x_il1 (pc := 125) rfl rfl ?_
            refine aal (pc := 126) (q := 0) (a := 13) rfl rfl (by decide) rfl ?_
            refine x_al2 (pc := 127) rfl rfl ?_
            refine x_k (pc := 129) rfl rfl rfl ⟨Nat.le_of_ble_eq_true rfl, Nat.le_of_ble_eq_true rfl, Nat.le_of_ble_eq_true rfl⟩ rfl (k_62x_0_53 (I := va_up (va_up (va_up I 31 (nI 0)) 26 (nI p)) 27 q) (A := A) (p := p) (q := q) rfl hp8 rfl hC.1 hl4 hm hm5 hm0 hor hn hu (mK_x rfl kk))
          · omega
  · exact absurd c12 (nI_m1 (by omega))
set_option maxRecDepth 100000 in
set_option maxHeartbeats 4000000 in
theorem k_58p_53_0 {S : DS} {mq0 p m : Nat} {q : Int32} {l : List R5} (hD : kD mq0 S I A) (ho : dO S = false) (hC : BC 2 I A l) (hl1 : 1 ≤ l.length) (hl4 : l.length ≤ 4) (hp8 : p < 8) (hq0 : ¬ q < 0) (hm : A 32 p = nI m) (hm5 : m < 5) (hns : ¬ (¬ m = 0 ∧ A 31 p = q ∧ m = l.length)) (hor : m = 0 ∨ A 31 p + nI m = q) {cn N : Nat} {f : Nat → Nat} (hcn : cn ≤ 16) (hc : I 40 = nI cn) (hf : ∀ k, k < cn → f k < 16) (hsl : ∀ j, j < cn → A 30 j = nI (f j)) (hN : I 42 = nI N) (hNb : N + 4 < 2 ^ 31) (hroom : frS (dD S) 16 0 = -1 ∨ cn < 16) (hn : 77 ≤ n ∧ n < 10000) (hu : u + 6 < 1000000) {Q : mO × mHp → Prop} (kk : ∀ S' f' cn', apS S 0 f cn N (nI p) q (nmb N l) = some (S', f', cn') → dO S' = false → ∀ I' A', Fr [2, 3, 14, 15, 40, 42, 26, 27, 31] I I' → Fr [0, 3, 4, 30, 20, 31, 32, 33] A A' → kD 60 S' I' A' → I' 31 = nI 0 → I' 42 = nI (N + l.length) → I' 40 = nI cn' → (∀ j, j < cn' → A' 30 j = nI (f' j)) → A' 31 = upd (A 31) p q → A' 32 = upd (A 32) p (nI l.length) → A' 33 = upd (A 33) p (nI N) → Q (.inl (some (.int (nI N))), hS n u I' A' J B 60 53 L xs X)) (kx : ∀ S' f' cn', apS S 0 f cn N (nI p) q (nmb N l) = some (S', f', cn') → dO S' = true → ∀ I' A', Up 60 I I' → Up 50 A A' → kD 60 S' I' A' → Q (.inr n, hS (n + 1) (u + 6) I' A' J B 60 53 L xs (va_up X n (.inr (9, []))))) (kr : apS S 0 f cn N (nI p) q (nmb N l) = none → ∀ I' A', Fr [14, 26, 27, 31] I I' → Fr [3, 20] A A' → I' 31 = nI 0 → Q (.inr n, hS (n + 1) (u + 6) I' A' J B 60 53 L xs (va_up X n (.inr (11, []))))) : mq 58 0 [some (.ref 1), some (.int (nI 0)), some (.int (nI p)), some (.int q), none, none, none, none] [] (hS n u I A J B 53 60 L xs X) Q := by
  refine x_al1 (pc := 0) rfl rfl ?_
  refine x_k (pc := 1) rfl rfl rfl ⟨Nat.le_of_ble_eq_true rfl, Nat.le_of_ble_eq_true rfl, Nat.le_of_ble_eq_true rfl⟩ rfl (k_59_53 (I := I) (A := A) ?_)
  show mq 58 4 [some (.ref 1), some (.int (nI 0)), some (.int (nI p)), some (.int q), none, none, none, none] [.ref 53] (hS n u (va_up I 31 (nI 0)) A J B 60 53 L xs X) _
  refine x_as2 (pc := 4) (ml' := [some (.ref 1), some (.int (nI 0)), some (.int (nI p)), some (.int q), some (.ref 53), none, none, none]) rfl rfl ?_
  refine x_al1 (pc := 6) rfl rfl ?_
  refine x_k (pc := 7) rfl rfl rfl ⟨Nat.le_of_ble_eq_true rfl, Nat.le_of_ble_eq_true rfl, Nat.le_of_ble_eq_true rfl⟩ rfl (k_60 (I := va_up I 31 (nI 0)) ((show (va_up I 31 (nI 0)) 0 = I 0 from rfl).trans (kD_1 hD ho)) ?_)
  show mq 58 10 [some (.ref 1), some (.int (nI 0)), some (.int (nI p)), some (.int q), some (.ref 53), none, none, none] [] (hS n u (va_up I 31 (nI 0)) A J B 60 53 L xs X) _
  refine x_il1 (pc := 10) rfl rfl ?_
  refine x_const (pc := 11) (pc' := 12) (.int (-1)) rfl rfl rfl rfl ?_
  refine x_cmp_ne (pc := 12) (t := 19) rfl rfl rfl (fun c12 => ?_) (fun c12 => ?_)
  · refine x_const (pc := 19) (pc' := 20) (.int (nI 0)) rfl rfl rfl rfl ?_
    refine x_is2 (pc := 20) (ml' := [some (.ref 1), some (.int (nI 0)), some (.int (nI p)), some (.int q), some (.ref 53), some (.int (nI 0)), none, none]) rfl rfl ?_
    refine x_il1 (pc := 22) rfl rfl ?_
    refine x_ifN_lt (pc := 23) (t := 62) rfl rfl (by omega) ?_
    refine x_il1 (pc := 26) rfl rfl ?_
    refine x_const (pc := 27) (pc' := 28) (.int (nI 3)) rfl rfl rfl rfl ?_
    refine x_cmpN_ge (pc := 28) (t := 62) rfl rfl (by decide) (by decide) (fun c => absurd c (by decide)) (fun _ => ?_)
    refine x_il1 (pc := 31) rfl rfl ?_
    refine x_const (pc := 32) (pc' := 33) (.int (-1)) rfl rfl rfl rfl ?_
    refine x_cmp_lt (pc := 33) (t := 62) rfl rfl rfl (fun c33 => ?_) (fun c33 => ?_)
    · exact absurd c33 (nI_m1lt hp8)
    · refine x_il1 (pc := 36) rfl rfl ?_
      refine x_const (pc := 37) (pc' := 39) (.int (nI 8)) rfl rfl rfl rfl ?_
      refine x_cmpN_ge (pc := 39) (t := 62) rfl rfl (by omega) (by omega) (fun c39 => ?_) (fun c39 => ?_)
      · omega
      · refine x_il2 (pc := 42) rfl rfl ?_
        refine x_ifN_ne (pc := 44) (t := 51) rfl rfl (by decide) (fun c => absurd c (by decide)) (fun _ => ?_)
        refine x_il1 (pc := 47) rfl rfl ?_
        refine x_if_lt (pc := 48) (t := 62) rfl rfl rfl (fun c48 => ?_) (fun c48 => ?_)
        · exact absurd c48 hq0
        · refine x_al2 (pc := 51) rfl rfl ?_
          refine g_53_0 (pc := 53) rfl rfl ?_
          refine g_54_5 (pc := 56) (v := nI l.length) rfl rfl hC.1 ?_
          refine x_ifN_ne (pc := 59) (t := 72) rfl rfl (by omega) (fun c59 => ?_) (fun c59 => ?_)
          · refine x_al2 (pc := 72) rfl rfl ?_
            refine x_il2 (pc := 74) rfl rfl ?_
            refine x_ifN_eq (pc := 76) (t := 85) rfl rfl (by decide) (fun _ => ?_) (fun c => absurd c (by decide))
            refine x_il1 (pc := 85) rfl rfl ?_
            refine x_il2 (pc := 86) rfl rfl ?_
            refine x_ifN_eq (pc := 88) (t := 95) rfl rfl (by decide) (fun _ => ?_) (fun c => absurd c (by decide))
            refine x_il1 (pc := 95) rfl rfl ?_
            refine x_k (pc := 96) rfl rfl rfl ⟨Nat.le_of_ble_eq_true rfl, Nat.le_of_ble_eq_true rfl, Nat.le_of_ble_eq_true rfl⟩ rfl (mq_k (c_43_2 (I := va_up I 31 (nI 0)) (A := A) _ _) ?_)
            show mq 58 99 [some (.ref 1), some (.int (nI 0)), some (.int (nI p)), some (.int q), some (.ref 53), some (.int (nI 0)), none, none] [] (hS n u (va_up (va_up (va_up I 31 (nI 0)) 26 (nI p)) 27 q) A J B 60 53 L xs X) _
            refine x_al1 (pc := 99) rfl rfl ?_
            refine g_1_2 (pc := 100) rfl rfl ?_
            refine x_il1 (pc := 103) rfl rfl ?_
            refine aal (pc := 104) (q := 0) (a := 13) rfl rfl (by decide) rfl ?_
            refine x_al2 (pc := 105) rfl rfl ?_
            refine x_k (pc := 107) rfl rfl rfl ⟨Nat.le_of_ble_eq_true rfl, Nat.le_of_ble_eq_true rfl, Nat.le_of_ble_eq_true rfl⟩ rfl (k_61d_0_53 (I := va_up (va_up (va_up I 31 (nI 0)) 26 (nI p)) 27 q) (A := A) (p := p) (q := q) rfl hp8 rfl hC.1 hl4 hm hm5 hns ?_)
            show mq 58 110 [some (.ref 1), some (.int (nI 0)), some (.int (nI p)), some (.int q), some (.ref 53), some (.int (nI 0)), none, none] [.int (-1)] (hS n u (va_up (va_up (va_up I 31 (nI 0)) 26 (nI p)) 27 q) A J B 60 53 L xs X) _
            refine x_is2 (pc := 110) (ml' := [some (.ref 1), some (.int (nI 0)), some (.int (nI p)), some (.int q), some (.ref 53), some (.int (nI 0)), some (.int (-1)), none]) rfl rfl ?_
            refine x_il2 (pc := 112) rfl rfl ?_
            refine x_if_lt (pc := 114) (t := 120) rfl rfl rfl (fun _ => ?_) (fun c => absurd (by decide) c)
            refine x_al1 (pc := 120) rfl rfl ?_
            refine x_al1 (pc := 121) rfl rfl ?_
            refine g_1_2 (pc := 122) rfl rfl ?_
            refine x_il1 (pc := 125) rfl rfl ?_
            refine aal (pc := 126) (q := 0) (a := 13) rfl rfl (by decide) rfl ?_
            refine x_al2 (pc := 127) rfl rfl ?_
            refine x_k (pc := 129) rfl rfl rfl ⟨Nat.le_of_ble_eq_true rfl, Nat.le_of_ble_eq_true rfl, Nat.le_of_ble_eq_true rfl⟩ rfl (k_62_0_53 (I := va_up (va_up (va_up I 31 (nI 0)) 26 (nI p)) 27 q) (A := A) (p := p) (q := q) rfl hp8 rfl hC.1 hl4 hm hm5 hor ?_)
            show mq 58 132 [some (.ref 1), some (.int (nI 0)), some (.int (nI p)), some (.int q), some (.ref 53), some (.int (nI 0)), some (.int (-1)), none] [] (hS n u (va_up (va_up (va_up I 31 (nI 0)) 26 (nI p)) 27 q) A J B 60 53 L xs X) _
            refine x_al1 (pc := 132) rfl rfl ?_
            refine x_al1 (pc := 133) rfl rfl ?_
            refine g_1_2 (pc := 134) rfl rfl ?_
            refine x_il1 (pc := 137) rfl rfl ?_
            refine aal (pc := 138) (q := 0) (a := 13) rfl rfl (by decide) rfl ?_
            refine x_al2 (pc := 139) rfl rfl ?_
            refine x_k (pc := 141) rfl rfl rfl ⟨Nat.le_of_ble_eq_true rfl, Nat.le_of_ble_eq_true rfl, Nat.le_of_ble_eq_true rfl⟩ rfl (k_63_0_2 (mk := 60) (sn := 53) (I := va_up (va_up (va_up I 31 (nI 0)) 26 (nI p)) 27 q) (A := A) (S := S) (f := f) (N := N) (l := l) (p := nI p) (q := q) (kD_on (kD_mk hD ho) ho (show Fr [26, 27, 31] I (va_up (va_up (va_up I 31 (nI 0)) 26 (nI p)) 27 q) from (Fr_u (Fr_u (Fr_u (Fr_refl _ I) (by decide)) (by decide)) (by decide))) (Fr_refl [] A) (by decide) (by decide)) ho (Or.inr ⟨rfl, rfl⟩) hn hu hcn hc hf hsl hN hNb ⟨rfl, rfl, hC.1, hC.2⟩ hl1 hl4 hroom (fun S6 f6 c6 e6 o6 I6 A6 x6 y6 h6 n6 b6 d6 s6 => ?_) (fun S6 f6 c6 e6 o6 I6 A6 x6 y6 h6 => mK_x rfl (kx S6 f6 c6 e6 o6 I6 A6 (Up_tr (Up_fr (show Fr [26, 27, 31] I (va_up (va_up (va_up I 31 (nI 0)) 26 (nI p)) 27 q) from (Fr_u (Fr_u (Fr_u (Fr_refl _ I) (by decide)) (by decide)) (by decide))) (by decide)) x6) y6 h6)) (fun e6 I6 A6 x6 y6 => mK_x rfl (kr e6 I6 A6 (Fr_cons (Fr_u (Fr_u (Fr_u (Fr_refl _ I) (by decide)) (by decide)) (by decide)) x6 (by decide)) y6 ((x6 31 (by decide)).trans rfl))))
            show mq 58 144 [some (.ref 1), some (.int (nI 0)), some (.int (nI p)), some (.int q), some (.ref 53), some (.int (nI 0)), some (.int (-1)), none] [.int (nI N)] (hS n u I6 A6 J B 60 53 L xs X) _
            refine x_is2 (pc := 144) (ml' := [some (.ref 1), some (.int (nI 0)), some (.int (nI p)), some (.int q), some (.ref 53), some (.int (nI 0)), some (.int (-1)), some (.int (nI N))]) rfl rfl ?_
            refine x_al1 (pc := 146) rfl rfl ?_
            refine g_1_2 (pc := 147) rfl rfl ?_
            refine x_il1 (pc := 150) rfl rfl ?_
            refine aal (pc := 151) (q := 0) (a := 13) rfl rfl (by decide) rfl ?_
            refine x_al2 (pc := 152) rfl rfl ?_
            refine x_il2 (pc := 154) rfl rfl ?_
            refine x_k (pc := 156) rfl rfl rfl ⟨Nat.le_of_ble_eq_true rfl, Nat.le_of_ble_eq_true rfl, Nat.le_of_ble_eq_true rfl⟩ rfl (k_46_0_2 (I := I6) (A := A6) (p := p) (m := (nmb N l).length) (q := q) (o := nI N) b6.1 hp8 b6.2.1 b6.2.2.1 (fun A7 y7 u7 v7 w7 => ?_))
            show mq 58 159 [some (.ref 1), some (.int (nI 0)), some (.int (nI p)), some (.int q), some (.ref 53), some (.int (nI 0)), some (.int (-1)), some (.int (nI N))] [] (hS n u I6 A7 J B 60 53 L xs X) _
            refine x_il2 (pc := 159) rfl rfl ?_
            refine x_ret (pc := 161) rfl rfl ?_
            rw [nmb_len] at v7
            exact kk S6 f6 c6 e6 o6 I6 A7 (Fr_cons (Fr_u (Fr_u (Fr_u (Fr_refl _ _) (by decide)) (by decide)) (by decide)) x6 (by decide)) (Fr_cons (Fr_cons (Fr_refl _ _) y6 (by decide)) y7 (by decide)) (kD_on h6 o6 (Fr_refl [] I6) y7 (by decide) (by decide)) ((x6 31 (by decide)).trans rfl) n6 d6 (fun j hj => by rw [y7 30 (by decide)]; exact s6 j hj) (by rw [u7, y6 31 (by decide)]) (by rw [v7, y6 32 (by decide)]) (by rw [w7, y6 33 (by decide)])
          · omega
  · exact absurd c12 (nI_m1 (by omega))
set_option maxRecDepth 100000 in
set_option maxHeartbeats 4000000 in
theorem k_58a_53_0 {S : DS} {mq0 : Nat} {q : Int32} {l : List R5} (hD : kD mq0 S I A) (ho : dO S = false) (hC : BC 2 I A l) (hl1 : 1 ≤ l.length) (hl4 : l.length ≤ 4) {cn N : Nat} {f : Nat → Nat} (hcn : cn ≤ 16) (hc : I 40 = nI cn) (hf : ∀ k, k < cn → f k < 16) (hsl : ∀ j, j < cn → A 30 j = nI (f j)) (hN : I 42 = nI N) (hNb : N + 4 < 2 ^ 31) (hroom : frS (dD S) 16 0 = -1 ∨ cn < 16) (hn : 77 ≤ n ∧ n < 10000) (hu : u + 6 < 1000000) {Q : mO × mHp → Prop} (kk : ∀ S' f' cn', apS S 0 f cn N (nI 255) (nI 0) (nmb N l) = some (S', f', cn') → dO S' = false → ∀ I' A', Fr [2, 3, 14, 15, 40, 42, 26, 27, 31] I I' → Fr [0, 3, 4, 30, 20] A A' → kD 60 S' I' A' → I' 31 = nI 0 → I' 42 = nI (N + l.length) → I' 40 = nI cn' → (∀ j, j < cn' → A' 30 j = nI (f' j)) → Q (.inl (some (.int (nI N))), hS n u I' A' J B 60 53 L xs X)) (kx : ∀ S' f' cn', apS S 0 f cn N (nI 255) (nI 0) (nmb N l) = some (S', f', cn') → dO S' = true → ∀ I' A', Up 60 I I' → Up 50 A A' → kD 60 S' I' A' → Q (.inr n, hS (n + 1) (u + 6) I' A' J B 60 53 L xs (va_up X n (.inr (9, []))))) (kr : apS S 0 f cn N (nI 255) (nI 0) (nmb N l) = none → ∀ I' A', Fr [14, 26, 27, 31] I I' → Fr [3, 20] A A' → I' 31 = nI 0 → Q (.inr n, hS (n + 1) (u + 6) I' A' J B 60 53 L xs (va_up X n (.inr (11, []))))) : mq 58 0 [some (.ref 1), some (.int (nI 0)), some (.int (-1)), some (.int q), none, none, none, none] [] (hS n u I A J B 53 60 L xs X) Q := by
  refine x_al1 (pc := 0) rfl rfl ?_
  refine x_k (pc := 1) rfl rfl rfl ⟨Nat.le_of_ble_eq_true rfl, Nat.le_of_ble_eq_true rfl, Nat.le_of_ble_eq_true rfl⟩ rfl (k_59_53 (I := I) (A := A) ?_)
  show mq 58 4 [some (.ref 1), some (.int (nI 0)), some (.int (-1)), some (.int q), none, none, none, none] [.ref 53] (hS n u (va_up I 31 (nI 0)) A J B 60 53 L xs X) _
  refine x_as2 (pc := 4) (ml' := [some (.ref 1), some (.int (nI 0)), some (.int (-1)), some (.int q), some (.ref 53), none, none, none]) rfl rfl ?_
  refine x_al1 (pc := 6) rfl rfl ?_
  refine x_k (pc := 7) rfl rfl rfl ⟨Nat.le_of_ble_eq_true rfl, Nat.le_of_ble_eq_true rfl, Nat.le_of_ble_eq_true rfl⟩ rfl (k_60 (I := va_up I 31 (nI 0)) ((show (va_up I 31 (nI 0)) 0 = I 0 from rfl).trans (kD_1 hD ho)) ?_)
  show mq 58 10 [some (.ref 1), some (.int (nI 0)), some (.int (-1)), some (.int q), some (.ref 53), none, none, none] [] (hS n u (va_up I 31 (nI 0)) A J B 60 53 L xs X) _
  refine x_il1 (pc := 10) rfl rfl ?_
  refine x_const (pc := 11) (pc' := 12) (.int (-1)) rfl rfl rfl rfl ?_
  refine x_cmp_ne (pc := 12) (t := 19) rfl rfl rfl (fun c12 => ?_) (fun c12 => ?_)
  · exact absurd rfl c12
  · refine x_const (pc := 15) (pc' := 16) (.int (nI 1)) rfl rfl rfl rfl ?_
    refine x_step (pc := 16) (pc' := 20) rfl rfl rfl rfl ?_
    refine x_is2 (pc := 20) (ml' := [some (.ref 1), some (.int (nI 0)), some (.int (-1)), some (.int q), some (.ref 53), some (.int (nI 1)), none, none]) rfl rfl ?_
    refine x_il1 (pc := 22) rfl rfl ?_
    refine x_ifN_lt (pc := 23) (t := 62) rfl rfl (by omega) ?_
    refine x_il1 (pc := 26) rfl rfl ?_
    refine x_const (pc := 27) (pc' := 28) (.int (nI 3)) rfl rfl rfl rfl ?_
    refine x_cmpN_ge (pc := 28) (t := 62) rfl rfl (by decide) (by decide) (fun c => absurd c (by decide)) (fun _ => ?_)
    refine x_il1 (pc := 31) rfl rfl ?_
    refine x_const (pc := 32) (pc' := 33) (.int (-1)) rfl rfl rfl rfl ?_
    refine x_cmp_lt (pc := 33) (t := 62) rfl rfl rfl (fun c33 => ?_) (fun c33 => ?_)
    · exact absurd c33 (by decide)
    · refine x_il1 (pc := 36) rfl rfl ?_
      refine x_const (pc := 37) (pc' := 39) (.int (nI 8)) rfl rfl rfl rfl ?_
      refine x_cmp_ge (pc := 39) (t := 62) rfl rfl rfl (fun c39 => ?_) (fun c39 => ?_)
      · exact absurd c39 (by decide)
      · refine x_il2 (pc := 42) rfl rfl ?_
        refine x_ifN_ne (pc := 44) (t := 51) rfl rfl (by decide) (fun _ => ?_) (fun c => absurd c (by decide))
        refine x_al2 (pc := 51) rfl rfl ?_
        refine g_53_0 (pc := 53) rfl rfl ?_
        refine g_54_5 (pc := 56) (v := nI l.length) rfl rfl hC.1 ?_
        refine x_ifN_ne (pc := 59) (t := 72) rfl rfl (by omega) (fun c59 => ?_) (fun c59 => ?_)
        · refine x_al2 (pc := 72) rfl rfl ?_
          refine x_il2 (pc := 74) rfl rfl ?_
          refine x_ifN_eq (pc := 76) (t := 85) rfl rfl (by decide) (fun c => absurd c (by decide)) (fun _ => ?_)
          refine x_const (pc := 79) (pc' := 82) (.int (nI 255)) rfl rfl rfl rfl ?_
          refine x_step (pc := 82) (pc' := 86) rfl rfl rfl rfl ?_
          refine x_il2 (pc := 86) rfl rfl ?_
          refine x_ifN_eq (pc := 88) (t := 95) rfl rfl (by decide) (fun c => absurd c (by decide)) (fun _ => ?_)
          refine x_const (pc := 91) (pc' := 92) (.int (nI 0)) rfl rfl rfl rfl ?_
          refine x_step (pc := 92) (pc' := 96) rfl rfl rfl rfl ?_
          refine x_k (pc := 96) rfl rfl rfl ⟨Nat.le_of_ble_eq_true rfl, Nat.le_of_ble_eq_true rfl, Nat.le_of_ble_eq_true rfl⟩ rfl (mq_k (c_43_2 (I := va_up I 31 (nI 0)) (A := A) _ _) ?_)
          show mq 58 99 [some (.ref 1), some (.int (nI 0)), some (.int (-1)), some (.int q), some (.ref 53), some (.int (nI 1)), none, none] [] (hS n u (va_up (va_up (va_up I 31 (nI 0)) 26 (nI 255)) 27 (nI 0)) A J B 60 53 L xs X) _
          refine x_al1 (pc := 99) rfl rfl ?_
          refine g_1_2 (pc := 100) rfl rfl ?_
          refine x_il1 (pc := 103) rfl rfl ?_
          refine aal (pc := 104) (q := 0) (a := 13) rfl rfl (by decide) rfl ?_
          refine x_al2 (pc := 105) rfl rfl ?_
          refine x_k (pc := 107) rfl rfl rfl ⟨Nat.le_of_ble_eq_true rfl, Nat.le_of_ble_eq_true rfl, Nat.le_of_ble_eq_true rfl⟩ rfl (k_61n_0_53 (I := va_up (va_up (va_up I 31 (nI 0)) 26 (nI 255)) 27 (nI 0)) (A := A) rfl ?_)
          show mq 58 110 [some (.ref 1), some (.int (nI 0)), some (.int (-1)), some (.int q), some (.ref 53), some (.int (nI 1)), none, none] [.int (-1)] (hS n u (va_up (va_up (va_up I 31 (nI 0)) 26 (nI 255)) 27 (nI 0)) A J B 60 53 L xs X) _
          refine x_is2 (pc := 110) (ml' := [some (.ref 1), some (.int (nI 0)), some (.int (-1)), some (.int q), some (.ref 53), some (.int (nI 1)), some (.int (-1)), none]) rfl rfl ?_
          refine x_il2 (pc := 112) rfl rfl ?_
          refine x_if_lt (pc := 114) (t := 120) rfl rfl rfl (fun _ => ?_) (fun c => absurd (by decide) c)
          refine x_al1 (pc := 120) rfl rfl ?_
          refine x_al1 (pc := 121) rfl rfl ?_
          refine g_1_2 (pc := 122) rfl rfl ?_
          refine x_il1 (pc := 125) rfl rfl ?_
          refine aal (pc := 126) (q := 0) (a := 13) rfl rfl (by decide) rfl ?_
          refine x_al2 (pc := 127) rfl rfl ?_
          refine x_k (pc := 129) rfl rfl rfl ⟨Nat.le_of_ble_eq_true rfl, Nat.le_of_ble_eq_true rfl, Nat.le_of_ble_eq_true rfl⟩ rfl (k_62n_0_53 (I := va_up (va_up (va_up I 31 (nI 0)) 26 (nI 255)) 27 (nI 0)) (A := A) rfl ?_)
          show mq 58 132 [some (.ref 1), some (.int (nI 0)), some (.int (-1)), some (.int q), some (.ref 53), some (.int (nI 1)), some (.int (-1)), none] [] (hS n u (va_up (va_up (va_up I 31 (nI 0)) 26 (nI 255)) 27 (nI 0)) A J B 60 53 L xs X) _
          refine x_al1 (pc := 132) rfl rfl ?_
          refine x_al1 (pc := 133) rfl rfl ?_
          refine g_1_2 (pc := 134) rfl rfl ?_
          refine x_il1 (pc := 137) rfl rfl ?_
          refine aal (pc := 138) (q := 0) (a := 13) rfl rfl (by decide) rfl ?_
          refine x_al2 (pc := 139) rfl rfl ?_
          refine x_k (pc := 141) rfl rfl rfl ⟨Nat.le_of_ble_eq_true rfl, Nat.le_of_ble_eq_true rfl, Nat.le_of_ble_eq_true rfl⟩ rfl (k_63_0_2 (mk := 60) (sn := 53) (I := va_up (va_up (va_up I 31 (nI 0)) 26 (nI 255)) 27 (nI 0)) (A := A) (S := S) (f := f) (N := N) (l := l) (p := nI 255) (q := nI 0) (kD_on (kD_mk hD ho) ho (show Fr [26, 27, 31] I (va_up (va_up (va_up I 31 (nI 0)) 26 (nI 255)) 27 (nI 0)) from (Fr_u (Fr_u (Fr_u (Fr_refl _ I) (by decide)) (by decide)) (by decide))) (Fr_refl [] A) (by decide) (by decide)) ho (Or.inr ⟨rfl, rfl⟩) hn hu hcn hc hf hsl hN hNb ⟨rfl, rfl, hC.1, hC.2⟩ hl1 hl4 hroom (fun S6 f6 c6 e6 o6 I6 A6 x6 y6 h6 n6 b6 d6 s6 => ?_) (fun S6 f6 c6 e6 o6 I6 A6 x6 y6 h6 => mK_x rfl (kx S6 f6 c6 e6 o6 I6 A6 (Up_tr (Up_fr (show Fr [26, 27, 31] I (va_up (va_up (va_up I 31 (nI 0)) 26 (nI 255)) 27 (nI 0)) from (Fr_u (Fr_u (Fr_u (Fr_refl _ I) (by decide)) (by decide)) (by decide))) (by decide)) x6) y6 h6)) (fun e6 I6 A6 x6 y6 => mK_x rfl (kr e6 I6 A6 (Fr_cons (Fr_u (Fr_u (Fr_u (Fr_refl _ I) (by decide)) (by decide)) (by decide)) x6 (by decide)) y6 ((x6 31 (by decide)).trans rfl))))
          show mq 58 144 [some (.ref 1), some (.int (nI 0)), some (.int (-1)), some (.int q), some (.ref 53), some (.int (nI 1)), some (.int (-1)), none] [.int (nI N)] (hS n u I6 A6 J B 60 53 L xs X) _
          refine x_is2 (pc := 144) (ml' := [some (.ref 1), some (.int (nI 0)), some (.int (-1)), some (.int q), some (.ref 53), some (.int (nI 1)), some (.int (-1)), some (.int (nI N))]) rfl rfl ?_
          refine x_al1 (pc := 146) rfl rfl ?_
          refine g_1_2 (pc := 147) rfl rfl ?_
          refine x_il1 (pc := 150) rfl rfl ?_
          refine aal (pc := 151) (q := 0) (a := 13) rfl rfl (by decide) rfl ?_
          refine x_al2 (pc := 152) rfl rfl ?_
          refine x_il2 (pc := 154) rfl rfl ?_
          refine x_k (pc := 156) rfl rfl rfl ⟨Nat.le_of_ble_eq_true rfl, Nat.le_of_ble_eq_true rfl, Nat.le_of_ble_eq_true rfl⟩ rfl (k_46n_0_2 (I := I6) (A := A6) (p := 255) (o := nI N) b6.1 (by decide) ?_)
          show mq 58 159 [some (.ref 1), some (.int (nI 0)), some (.int (-1)), some (.int q), some (.ref 53), some (.int (nI 1)), some (.int (-1)), some (.int (nI N))] [] (hS n u I6 A6 J B 60 53 L xs X) _
          refine x_il2 (pc := 159) rfl rfl ?_
          refine x_ret (pc := 161) rfl rfl ?_
          exact kk S6 f6 c6 e6 o6 I6 A6 (Fr_cons (Fr_u (Fr_u (Fr_u (Fr_refl _ _) (by decide)) (by decide)) (by decide)) x6 (by decide)) (Fr_cons (Fr_refl _ _) y6 (by decide)) h6 ((x6 31 (by decide)).trans rfl) n6 d6 s6
        · omega
set_option maxRecDepth 100000 in
set_option maxHeartbeats 4000000 in
theorem k_58s_53_1 {S : DS} {mq0 p m : Nat} {q : Int32} {l : List R5} (hD : kD mq0 S I A) (ho : dO S = false) (hC : BC 2 I A l) (hl1 : 1 ≤ l.length) (hl4 : l.length ≤ 4) (hp8 : p < 8) (hq0 : ¬ q < 0) (hm : A 36 p = nI m) (hm5 : m < 5) (hs1 : ¬ m = 0) (hs2 : A 35 p = q) (hs3 : m = l.length) {o : Nat} (ho9 : A 37 p = nI o) (ho31 : o < 2 ^ 31) {Q : mO × mHp → Prop} (kk : Q (.inl (some (.int (A 37 p))), hS n u (va_up (va_up (va_up I 31 (nI 0)) 26 (nI p)) 27 q) A J B 60 53 L xs X)) : mq 58 0 [some (.ref 1), some (.int (nI 1)), some (.int (nI p)), some (.int q), none, none, none, none] [] (hS n u I A J B 53 60 L xs X) Q := by
  refine x_al1 (pc := 0) rfl rfl ?_
  refine x_k (pc := 1) rfl rfl rfl ⟨Nat.le_of_ble_eq_true rfl, Nat.le_of_ble_eq_true rfl, Nat.le_of_ble_eq_true rfl⟩ rfl (k_59_53 (I := I) (A := A) ?_)
  show mq 58 4 [some (.ref 1), some (.int (nI 1)), some (.int (nI p)), some (.int q), none, none, none, none] [.ref 53] (hS n u (va_up I 31 (nI 0)) A J B 60 53 L xs X) _
  refine x_as2 (pc := 4) (ml' := [some (.ref 1), some (.int (nI 1)), some (.int (nI p)), some (.int q), some (.ref 53), none, none, none]) rfl rfl ?_
  refine x_al1 (pc := 6) rfl rfl ?_
  refine x_k (pc := 7) rfl rfl rfl ⟨Nat.le_of_ble_eq_true rfl, Nat.le_of_ble_eq_true rfl, Nat.le_of_ble_eq_true rfl⟩ rfl (k_60 (I := va_up I 31 (nI 0)) ((show (va_up I 31 (nI 0)) 0 = I 0 from rfl).trans (kD_1 hD ho)) ?_)
  show mq 58 10 [some (.ref 1), some (.int (nI 1)), some (.int (nI p)), some (.int q), some (.ref 53), none, none, none] [] (hS n u (va_up I 31 (nI 0)) A J B 60 53 L xs X) _
  refine x_il1 (pc := 10) rfl rfl ?_
  refine x_const (pc := 11) (pc' := 12) (.int (-1)) rfl rfl rfl rfl ?_
  refine x_cmp_ne (pc := 12) (t := 19) rfl rfl rfl (fun c12 => ?_) (fun c12 => ?_)
  · refine x_const (pc := 19) (pc' := 20) (.int (nI 0)) rfl rfl rfl rfl ?_
    refine x_is2 (pc := 20) (ml' := [some (.ref 1), some (.int (nI 1)), some (.int (nI p)), some (.int q), some (.ref 53), some (.int (nI 0)), none, none]) rfl rfl ?_
    refine x_il1 (pc := 22) rfl rfl ?_
    refine x_ifN_lt (pc := 23) (t := 62) rfl rfl (by omega) ?_
    refine x_il1 (pc := 26) rfl rfl ?_
    refine x_const (pc := 27) (pc' := 28) (.int (nI 3)) rfl rfl rfl rfl ?_
    refine x_cmpN_ge (pc := 28) (t := 62) rfl rfl (by decide) (by decide) (fun c => absurd c (by decide)) (fun _ => ?_)
    refine x_il1 (pc := 31) rfl rfl ?_
    refine x_const (pc := 32) (pc' := 33) (.int (-1)) rfl rfl rfl rfl ?_
    refine x_cmp_lt (pc := 33) (t := 62) rfl rfl rfl (fun c33 => ?_) (fun c33 => ?_)
    · exact absurd c33 (nI_m1lt hp8)
    · refine x_il1 (pc := 36) rfl rfl ?_
      refine x_const (pc := 37) (pc' := 39) (.int (nI 8)) rfl rfl rfl rfl ?_
      refine x_cmpN_ge (pc := 39) (t := 62) rfl rfl (by omega) (by omega) (fun c39 => ?_) (fun c39 => ?_)
      · omega
      · refine x_il2 (pc := 42) rfl rfl ?_
        refine x_ifN_ne (pc := 44) (t := 51) rfl rfl (by decide) (fun c => absurd c (by decide)) (fun _ => ?_)
        refine x_il1 (pc := 47) rfl rfl ?_
        refine x_if_lt (pc := 48) (t := 62) rfl rfl rfl (fun c48 => ?_) (fun c48 => ?_)
        · exact absurd c48 hq0
        · refine x_al2 (pc := 51) rfl rfl ?_
          refine g_53_0 (pc := 53) rfl rfl ?_
          refine g_54_5 (pc := 56) (v := nI l.length) rfl rfl hC.1 ?_
          refine x_ifN_ne (pc := 59) (t := 72) rfl rfl (by omega) (fun c59 => ?_) (fun c59 => ?_)
          · refine x_al2 (pc := 72) rfl rfl ?_
            refine x_il2 (pc := 74) rfl rfl ?_
            refine x_ifN_eq (pc := 76) (t := 85) rfl rfl (by decide) (fun _ => ?_) (fun c => absurd c (by decide))
            refine x_il1 (pc := 85) rfl rfl ?_
            refine x_il2 (pc := 86) rfl rfl ?_
            refine x_ifN_eq (pc := 88) (t := 95) rfl rfl (by decide) (fun _ => ?_) (fun c => absurd c (by decide))
            refine x_il1 (pc := 95) rfl rfl ?_
            refine x_k (pc := 96) rfl rfl rfl ⟨Nat.le_of_ble_eq_true rfl, Nat.le_of_ble_eq_true rfl, Nat.le_of_ble_eq_true rfl⟩ rfl (mq_k (c_43_2 (I := va_up I 31 (nI 0)) (A := A) _ _) ?_)
            show mq 58 99 [some (.ref 1), some (.int (nI 1)), some (.int (nI p)), some (.int q), some (.ref 53), some (.int (nI 0)), none, none] [] (hS n u (va_up (va_up (va_up I 31 (nI 0)) 26 (nI p)) 27 q) A J B 60 53 L xs X) _
            refine x_al1 (pc := 99) rfl rfl ?_
            refine g_1_2 (pc := 100) rfl rfl ?_
            refine x_il1 (pc := 103) rfl rfl ?_
            refine aal (pc := 104) (q := 1) (a := 18) rfl rfl (by decide) rfl ?_
            refine x_al2 (pc := 105) rfl rfl ?_
            refine x_k (pc := 107) rfl rfl rfl ⟨Nat.le_of_ble_eq_true rfl, Nat.le_of_ble_eq_true rfl, Nat.le_of_ble_eq_true rfl⟩ rfl (k_61s_1_53 (I := va_up (va_up (va_up I 31 (nI 0)) 26 (nI p)) 27 q) (A := A) (p := p) (q := q) rfl hp8 rfl hC.1 hl4 hm hm5 hs1 hs2 hs3 ?_)
            show mq 58 110 [some (.ref 1), some (.int (nI 1)), some (.int (nI p)), some (.int q), some (.ref 53), some (.int (nI 0)), none, none] [.int (A 37 p)] (hS n u (va_up (va_up (va_up I 31 (nI 0)) 26 (nI p)) 27 q) A J B 60 53 L xs X) _
            refine x_top (y := nI o) (ho9) ?_
            refine x_is2 (pc := 110) (ml' := [some (.ref 1), some (.int (nI 1)), some (.int (nI p)), some (.int q), some (.ref 53), some (.int (nI 0)), some (.int (nI o)), none]) rfl rfl ?_
            refine x_il2 (pc := 112) rfl rfl ?_
            refine x_ifN_lt (pc := 114) (t := 120) rfl rfl (by omega) ?_
            refine x_il2 (pc := 117) rfl rfl ?_
            refine x_ret (pc := 119) rfl rfl ?_
            rw [← ho9]
            exact kk
          · omega
  · exact absurd c12 (nI_m1 (by omega))
set_option maxRecDepth 100000 in
set_option maxHeartbeats 4000000 in
theorem k_58o_53_1 {S : DS} {mq0 p m : Nat} {q : Int32} {l : List R5} (hD : kD mq0 S I A) (ho : dO S = false) (hC : BC 2 I A l) (hl1 : 1 ≤ l.length) (hl4 : l.length ≤ 4) (hp8 : p < 8) (hq0 : ¬ q < 0) (hm : A 36 p = nI m) (hm5 : m < 5) (hns : ¬ (¬ m = 0 ∧ A 35 p = q ∧ m = l.length)) (hm0 : ¬ m = 0) (hor : ¬ A 35 p + nI m = q) (hn : 77 ≤ n ∧ n < 10000) (hu : u + 6 < 1000000) {Q : mO × mHp → Prop} (kk : Q (.inr n, hS (n + 1) (u + 6) (va_up (va_up (va_up I 31 (nI 0)) 26 (nI p)) 27 q) A J B 60 53 L xs (va_up X n (.inr (11, []))))) : mq 58 0 [some (.ref 1), some (.int (nI 1)), some (.int (nI p)), some (.int q), none, none, none, none] [] (hS n u I A J B 53 60 L xs X) Q := by
  refine x_al1 (pc := 0) rfl rfl ?_
  refine x_k (pc := 1) rfl rfl rfl ⟨Nat.le_of_ble_eq_true rfl, Nat.le_of_ble_eq_true rfl, Nat.le_of_ble_eq_true rfl⟩ rfl (k_59_53 (I := I) (A := A) ?_)
  show mq 58 4 [some (.ref 1), some (.int (nI 1)), some (.int (nI p)), some (.int q), none, none, none, none] [.ref 53] (hS n u (va_up I 31 (nI 0)) A J B 60 53 L xs X) _
  refine x_as2 (pc := 4) (ml' := [some (.ref 1), some (.int (nI 1)), some (.int (nI p)), some (.int q), some (.ref 53), none, none, none]) rfl rfl ?_
  refine x_al1 (pc := 6) rfl rfl ?_
  refine x_k (pc := 7) rfl rfl rfl ⟨Nat.le_of_ble_eq_true rfl, Nat.le_of_ble_eq_true rfl, Nat.le_of_ble_eq_true rfl⟩ rfl (k_60 (I := va_up I 31 (nI 0)) ((show (va_up I 31 (nI 0)) 0 = I 0 from rfl).trans (kD_1 hD ho)) ?_)
  show mq 58 10 [some (.ref 1), some (.int (nI 1)), some (.int (nI p)), some (.int q), some (.ref 53), none, none, none] [] (hS n u (va_up I 31 (nI 0)) A J B 60 53 L xs X) _
  refine x_il1 (pc := 10) rfl rfl ?_
  refine x_const (pc := 11) (pc' := 12) (.int (-1)) rfl rfl rfl rfl ?_
  refine x_cmp_ne (pc := 12) (t := 19) rfl rfl rfl (fun c12 => ?_) (fun c12 => ?_)
  · refine x_const (pc := 19) (pc' := 20) (.int (nI 0)) rfl rfl rfl rfl ?_
    refine x_is2 (pc := 20) (ml' := [some (.ref 1), some (.int (nI 1)), some (.int (nI p)), some (.int q), some (.ref 53), some (.int (nI 0)), none, none]) rfl rfl ?_
    refine x_il1 (pc := 22) rfl rfl ?_
    refine x_ifN_lt (pc := 23) (t := 62) rfl rfl (by omega) ?_
    refine x_il1 (pc := 26) rfl rfl ?_
    refine x_const (pc := 27) (pc' := 28) (.int (nI 3)) rfl rfl rfl rfl ?_
    refine x_cmpN_ge (pc := 28) (t := 62) rfl rfl (by decide) (by decide) (fun c => absurd c (by decide)) (fun _ => ?_)
    refine x_il1 (pc := 31) rfl rfl ?_
    refine x_const (pc := 32) (pc' := 33) (.int (-1)) rfl rfl rfl rfl ?_
    refine x_cmp_lt (pc := 33) (t := 62) rfl rfl rfl (fun c33 => ?_) (fun c33 => ?_)
    · exact absurd c33 (nI_m1lt hp8)
    · refine x_il1 (pc := 36) rfl rfl ?_
      refine x_const (pc := 37) (pc' := 39) (.int (nI 8)) rfl rfl rfl rfl ?_
      refine x_cmpN_ge (pc := 39) (t := 62) rfl rfl (by omega) (by omega) (fun c39 => ?_) (fun c39 => ?_)
      · omega
      · refine x_il2 (pc := 42) rfl rfl ?_
        refine x_ifN_ne (pc := 44) (t := 51) rfl rfl (by decide) (fun c => absurd c (by decide)) (fun _ => ?_)
        refine x_il1 (pc := 47) rfl rfl ?_
        refine x_if_lt (pc := 48) (t := 62) rfl rfl rfl (fun c48 => ?_) (fun c48 => ?_)
        · exact absurd c48 hq0
        · refine x_al2 (pc := 51) rfl rfl ?_
          refine g_53_0 (pc := 53) rfl rfl ?_
          refine g_54_5 (pc := 56) (v := nI l.length) rfl rfl hC.1 ?_
          refine x_ifN_ne (pc := 59) (t := 72) rfl rfl (by omega) (fun c59 => ?_) (fun c59 => ?_)
          · refine x_al2 (pc := 72) rfl rfl ?_
            refine x_il2 (pc := 74) rfl rfl ?_
            refine x_ifN_eq (pc := 76) (t := 85) rfl rfl (by decide) (fun _ => ?_) (fun c => absurd c (by decide))
            refine x_il1 (pc := 85) rfl rfl ?_
            refine x_il2 (pc := 86) rfl rfl ?_
            refine x_ifN_eq (pc := 88) (t := 95) rfl rfl (by decide) (fun _ => ?_) (fun c => absurd c (by decide))
            refine x_il1 (pc := 95) rfl rfl ?_
            refine x_k (pc := 96) rfl rfl rfl ⟨Nat.le_of_ble_eq_true rfl, Nat.le_of_ble_eq_true rfl, Nat.le_of_ble_eq_true rfl⟩ rfl (mq_k (c_43_2 (I := va_up I 31 (nI 0)) (A := A) _ _) ?_)
            show mq 58 99 [some (.ref 1), some (.int (nI 1)), some (.int (nI p)), some (.int q), some (.ref 53), some (.int (nI 0)), none, none] [] (hS n u (va_up (va_up (va_up I 31 (nI 0)) 26 (nI p)) 27 q) A J B 60 53 L xs X) _
            refine x_al1 (pc := 99) rfl rfl ?_
            refine g_1_2 (pc := 100) rfl rfl ?_
            refine x_il1 (pc := 103) rfl rfl ?_
            refine aal (pc := 104) (q := 1) (a := 18) rfl rfl (by decide) rfl ?_
            refine x_al2 (pc := 105) rfl rfl ?_
            refine x_k (pc := 107) rfl rfl rfl ⟨Nat.le_of_ble_eq_true rfl, Nat.le_of_ble_eq_true rfl, Nat.le_of_ble_eq_true rfl⟩ rfl (k_61d_1_53 (I := va_up (va_up (va_up I 31 (nI 0)) 26 (nI p)) 27 q) (A := A) (p := p) (q := q) rfl hp8 rfl hC.1 hl4 hm hm5 hns ?_)
            show mq 58 110 [some (.ref 1), some (.int (nI 1)), some (.int (nI p)), some (.int q), some (.ref 53), some (.int (nI 0)), none, none] [.int (-1)] (hS n u (va_up (va_up (va_up I 31 (nI 0)) 26 (nI p)) 27 q) A J B 60 53 L xs X) _
            refine x_is2 (pc := 110) (ml' := [some (.ref 1), some (.int (nI 1)), some (.int (nI p)), some (.int q), some (.ref 53), some (.int (nI 0)), some (.int (-1)), none]) rfl rfl ?_
            refine x_il2 (pc := 112) rfl rfl ?_
            refine x_if_lt (pc := 114) (t := 120) rfl rfl rfl (fun _ => ?_) (fun c => absurd (by decide) c)
            refine x_al1 (pc := 120) rfl rfl ?_
            refine x_al1 (pc := 121) rfl rfl ?_
            refine g_1_2 (pc := 122) rfl rfl ?_
            refine x_il1 (pc := 125) rfl rfl ?_
            refine aal (pc := 126) (q := 1) (a := 18) rfl rfl (by decide) rfl ?_
            refine x_al2 (pc := 127) rfl rfl ?_
            refine x_k (pc := 129) rfl rfl rfl ⟨Nat.le_of_ble_eq_true rfl, Nat.le_of_ble_eq_true rfl, Nat.le_of_ble_eq_true rfl⟩ rfl (k_62x_1_53 (I := va_up (va_up (va_up I 31 (nI 0)) 26 (nI p)) 27 q) (A := A) (p := p) (q := q) rfl hp8 rfl hC.1 hl4 hm hm5 hm0 hor hn hu (mK_x rfl kk))
          · omega
  · exact absurd c12 (nI_m1 (by omega))
set_option maxRecDepth 100000 in
set_option maxHeartbeats 4000000 in
theorem k_58p_53_1 {S : DS} {mq0 p m : Nat} {q : Int32} {l : List R5} (hD : kD mq0 S I A) (ho : dO S = false) (hC : BC 2 I A l) (hl1 : 1 ≤ l.length) (hl4 : l.length ≤ 4) (hp8 : p < 8) (hq0 : ¬ q < 0) (hm : A 36 p = nI m) (hm5 : m < 5) (hns : ¬ (¬ m = 0 ∧ A 35 p = q ∧ m = l.length)) (hor : m = 0 ∨ A 35 p + nI m = q) {cn N : Nat} {f : Nat → Nat} (hcn : cn ≤ 16) (hc : I 43 = nI cn) (hf : ∀ k, k < cn → f k < 16) (hsl : ∀ j, j < cn → A 34 j = nI (f j)) (hN : I 45 = nI N) (hNb : N + 4 < 2 ^ 31) (hroom : frS (dD S) 16 0 = -1 ∨ cn < 16) (hn : 77 ≤ n ∧ n < 10000) (hu : u + 6 < 1000000) {Q : mO × mHp → Prop} (kk : ∀ S' f' cn', apS S 1 f cn N (nI p) q (nmb N l) = some (S', f', cn') → dO S' = false → ∀ I' A', Fr [2, 3, 14, 15, 43, 45, 26, 27, 31] I I' → Fr [0, 3, 4, 34, 20, 35, 36, 37] A A' → kD 60 S' I' A' → I' 31 = nI 0 → I' 45 = nI (N + l.length) → I' 43 = nI cn' → (∀ j, j < cn' → A' 34 j = nI (f' j)) → A' 35 = upd (A 35) p q → A' 36 = upd (A 36) p (nI l.length) → A' 37 = upd (A 37) p (nI N) → Q (.inl (some (.int (nI N))), hS n u I' A' J B 60 53 L xs X)) (kx : ∀ S' f' cn', apS S 1 f cn N (nI p) q (nmb N l) = some (S', f', cn') → dO S' = true → ∀ I' A', Up 60 I I' → Up 50 A A' → kD 60 S' I' A' → Q (.inr n, hS (n + 1) (u + 6) I' A' J B 60 53 L xs (va_up X n (.inr (9, []))))) (kr : apS S 1 f cn N (nI p) q (nmb N l) = none → ∀ I' A', Fr [14, 26, 27, 31] I I' → Fr [3, 20] A A' → I' 31 = nI 0 → Q (.inr n, hS (n + 1) (u + 6) I' A' J B 60 53 L xs (va_up X n (.inr (11, []))))) : mq 58 0 [some (.ref 1), some (.int (nI 1)), some (.int (nI p)), some (.int q), none, none, none, none] [] (hS n u I A J B 53 60 L xs X) Q := by
  refine x_al1 (pc := 0) rfl rfl ?_
  refine x_k (pc := 1) rfl rfl rfl ⟨Nat.le_of_ble_eq_true rfl, Nat.le_of_ble_eq_true rfl, Nat.le_of_ble_eq_true rfl⟩ rfl (k_59_53 (I := I) (A := A) ?_)
  show mq 58 4 [some (.ref 1), some (.int (nI 1)), some (.int (nI p)), some (.int q), none, none, none, none] [.ref 53] (hS n u (va_up I 31 (nI 0)) A J B 60 53 L xs X) _
  refine x_as2 (pc := 4) (ml' := [some (.ref 1), some (.int (nI 1)), some (.int (nI p)), some (.int q), some (.ref 53), none, none, none]) rfl rfl ?_
  refine x_al1 (pc := 6) rfl rfl ?_
  refine x_k (pc := 7) rfl rfl rfl ⟨Nat.le_of_ble_eq_true rfl, Nat.le_of_ble_eq_true rfl, Nat.le_of_ble_eq_true rfl⟩ rfl (k_60 (I := va_up I 31 (nI 0)) ((show (va_up I 31 (nI 0)) 0 = I 0 from rfl).trans (kD_1 hD ho)) ?_)
  show mq 58 10 [some (.ref 1), some (.int (nI 1)), some (.int (nI p)), some (.int q), some (.ref 53), none, none, none] [] (hS n u (va_up I 31 (nI 0)) A J B 60 53 L xs X) _
  refine x_il1 (pc := 10) rfl rfl ?_
  refine x_const (pc := 11) (pc' := 12) (.int (-1)) rfl rfl rfl rfl ?_
  refine x_cmp_ne (pc := 12) (t := 19) rfl rfl rfl (fun c12 => ?_) (fun c12 => ?_)
  · refine x_const (pc := 19) (pc' := 20) (.int (nI 0)) rfl rfl rfl rfl ?_
    refine x_is2 (pc := 20) (ml' := [some (.ref 1), some (.int (nI 1)), some (.int (nI p)), some (.int q), some (.ref 53), some (.int (nI 0)), none, none]) rfl rfl ?_
    refine x_il1 (pc := 22) rfl rfl ?_
    refine x_ifN_lt (pc := 23) (t := 62) rfl rfl (by omega) ?_
    refine x_il1 (pc := 26) rfl rfl ?_
    refine x_const (pc := 27) (pc' := 28) (.int (nI 3)) rfl rfl rfl rfl ?_
    refine x_cmpN_ge (pc := 28) (t := 62) rfl rfl (by decide) (by decide) (fun c => absurd c (by decide)) (fun _ => ?_)
    refine x_il1 (pc := 31) rfl rfl ?_
    refine x_const (pc := 32) (pc' := 33) (.int (-1)) rfl rfl rfl rfl ?_
    refine x_cmp_lt (pc := 33) (t := 62) rfl rfl rfl (fun c33 => ?_) (fun c33 => ?_)
    · exact absurd c33 (nI_m1lt hp8)
    · refine x_il1 (pc := 36) rfl rfl ?_
      refine x_const (pc := 37) (pc' := 39) (.int (nI 8)) rfl rfl rfl rfl ?_
      refine x_cmpN_ge (pc := 39) (t := 62) rfl rfl (by omega) (by omega) (fun c39 => ?_) (fun c39 => ?_)
      · omega
      · refine x_il2 (pc := 42) rfl rfl ?_
        refine x_ifN_ne (pc := 44) (t := 51) rfl rfl (by decide) (fun c => absurd c (by decide)) (fun _ => ?_)
        refine x_il1 (pc := 47) rfl rfl ?_
        refine x_if_lt (pc := 48) (t := 62) rfl rfl rfl (fun c48 => ?_) (fun c48 => ?_)
        · exact absurd c48 hq0
        · refine x_al2 (pc := 51) rfl rfl ?_
          refine g_53_0 (pc := 53) rfl rfl ?_
          refine g_54_5 (pc := 56) (v := nI l.length) rfl rfl hC.1 ?_
          refine x_ifN_ne (pc := 59) (t := 72) rfl rfl (by omega) (fun c59 => ?_) (fun c59 => ?_)
          · refine x_al2 (pc := 72) rfl rfl ?_
            refine x_il2 (pc := 74) rfl rfl ?_
            refine x_ifN_eq (pc := 76) (t := 85) rfl rfl (by decide) (fun _ => ?_) (fun c => absurd c (by decide))
            refine x_il1 (pc := 85) rfl rfl ?_
            refine x_il2 (pc := 86) rfl rfl ?_
            refine x_ifN_eq (pc := 88) (t := 95) rfl rfl (by decide) (fun _ => ?_) (fun c => absurd c (by decide))
            refine x_il1 (pc := 95) rfl rfl ?_
            refine x_k (pc := 96) rfl rfl rfl ⟨Nat.le_of_ble_eq_true rfl, Nat.le_of_ble_eq_true rfl, Nat.le_of_ble_eq_true rfl⟩ rfl (mq_k (c_43_2 (I := va_up I 31 (nI 0)) (A := A) _ _) ?_)
            show mq 58 99 [some (.ref 1), some (.int (nI 1)), some (.int (nI p)), some (.int q), some (.ref 53), some (.int (nI 0)), none, none] [] (hS n u (va_up (va_up (va_up I 31 (nI 0)) 26 (nI p)) 27 q) A J B 60 53 L xs X) _
            refine x_al1 (pc := 99) rfl rfl ?_
            refine g_1_2 (pc := 100) rfl rfl ?_
            refine x_il1 (pc := 103) rfl rfl ?_
            refine aal (pc := 104) (q := 1) (a := 18) rfl rfl (by decide) rfl ?_
            refine x_al2 (pc := 105) rfl rfl ?_
            refine x_k (pc := 107) rfl rfl rfl ⟨Nat.le_of_ble_eq_true rfl, Nat.le_of_ble_eq_true rfl, Nat.le_of_ble_eq_true rfl⟩ rfl (k_61d_1_53 (I := va_up (va_up (va_up I 31 (nI 0)) 26 (nI p)) 27 q) (A := A) (p := p) (q := q) rfl hp8 rfl hC.1 hl4 hm hm5 hns ?_)
            show mq 58 110 [some (.ref 1), some (.int (nI 1)), some (.int (nI p)), some (.int q), some (.ref 53), some (.int (nI 0)), none, none] [.int (-1)] (hS n u (va_up (va_up (va_up I 31 (nI 0)) 26 (nI p)) 27 q) A J B 60 53 L xs X) _
            refine x_is2 (pc := 110) (ml' := [some (.ref 1), some (.int (nI 1)), some (.int (nI p)), some (.int q), some (.ref 53), some (.int (nI 0)), some (.int (-1)), none]) rfl rfl ?_
            refine x_il2 (pc := 112) rfl rfl ?_
            refine x_if_lt (pc := 114) (t := 120) rfl rfl rfl (fun _ => ?_) (fun c => absurd (by decide) c)
            refine x_al1 (pc := 120) rfl rfl ?_
            refine x_al1 (pc := 121) rfl rfl ?_
            refine g_1_2 (pc := 122) rfl rfl ?_
            refine x_il1 (pc := 125) rfl rfl ?_
            refine aal (pc := 126) (q := 1) (a := 18) rfl rfl (by decide) rfl ?_
            refine x_al2 (pc := 127) rfl rfl ?_
            refine x_k (pc := 129) rfl rfl rfl ⟨Nat.le_of_ble_eq_true rfl, Nat.le_of_ble_eq_true rfl, Nat.le_of_ble_eq_true rfl⟩ rfl (k_62_1_53 (I := va_up (va_up (va_up I 31 (nI 0)) 26 (nI p)) 27 q) (A := A) (p := p) (q := q) rfl hp8 rfl hC.1 hl4 hm hm5 hor ?_)
            show mq 58 132 [some (.ref 1), some (.int (nI 1)), some (.int (nI p)), some (.int q), some (.ref 53), some (.int (nI 0)), some (.int (-1)), none] [] (hS n u (va_up (va_up (va_up I 31 (nI 0)) 26 (nI p)) 27 q) A J B 60 53 L xs X) _
            refine x_al1 (pc := 132) rfl rfl ?_
            refine x_al1 (pc := 133) rfl rfl ?_
            refine g_1_2 (pc := 134) rfl rfl ?_
            refine x_il1 (pc := 137) rfl rfl ?_
            refine aal (pc := 138) (q := 1) (a := 18) rfl rfl (by decide) rfl ?_
            refine x_al2 (pc := 139) rfl rfl ?_
            refine x_k (pc := 141) rfl rfl rfl ⟨Nat.le_of_ble_eq_true rfl, Nat.le_of_ble_eq_true rfl, Nat.le_of_ble_eq_true rfl⟩ rfl (k_63_1_2 (mk := 60) (sn := 53) (I := va_up (va_up (va_up I 31 (nI 0)) 26 (nI p)) 27 q) (A := A) (S := S) (f := f) (N := N) (l := l) (p := nI p) (q := q) (kD_on (kD_mk hD ho) ho (show Fr [26, 27, 31] I (va_up (va_up (va_up I 31 (nI 0)) 26 (nI p)) 27 q) from (Fr_u (Fr_u (Fr_u (Fr_refl _ I) (by decide)) (by decide)) (by decide))) (Fr_refl [] A) (by decide) (by decide)) ho (Or.inr ⟨rfl, rfl⟩) hn hu hcn hc hf hsl hN hNb ⟨rfl, rfl, hC.1, hC.2⟩ hl1 hl4 hroom (fun S6 f6 c6 e6 o6 I6 A6 x6 y6 h6 n6 b6 d6 s6 => ?_) (fun S6 f6 c6 e6 o6 I6 A6 x6 y6 h6 => mK_x rfl (kx S6 f6 c6 e6 o6 I6 A6 (Up_tr (Up_fr (show Fr [26, 27, 31] I (va_up (va_up (va_up I 31 (nI 0)) 26 (nI p)) 27 q) from (Fr_u (Fr_u (Fr_u (Fr_refl _ I) (by decide)) (by decide)) (by decide))) (by decide)) x6) y6 h6)) (fun e6 I6 A6 x6 y6 => mK_x rfl (kr e6 I6 A6 (Fr_cons (Fr_u (Fr_u (Fr_u (Fr_refl _ I) (by decide)) (by decide)) (by decide)) x6 (by decide)) y6 ((x6 31 (by decide)).trans rfl))))
            show mq 58 144 [some (.ref 1), some (.int (nI 1)), some (.int (nI p)), some (.int q), some (.ref 53), some (.int (nI 0)), some (.int (-1)), none] [.int (nI N)] (hS n u I6 A6 J B 60 53 L xs X) _
            refine x_is2 (pc := 144) (ml' := [some (.ref 1), some (.int (nI 1)), some (.int (nI p)), some (.int q), some (.ref 53), some (.int (nI 0)), some (.int (-1)), some (.int (nI N))]) rfl rfl ?_
            refine x_al1 (pc := 146) rfl rfl ?_
            refine g_1_2 (pc := 147) rfl rfl ?_
            refine x_il1 (pc := 150) rfl rfl ?_
            refine aal (pc := 151) (q := 1) (a := 18) rfl rfl (by decide) rfl ?_
            refine x_al2 (pc := 152) rfl rfl ?_
            refine x_il2 (pc := 154) rfl rfl ?_
            refine x_k (pc := 156) rfl rfl rfl ⟨Nat.le_of_ble_eq_true rfl, Nat.le_of_ble_eq_true rfl, Nat.le_of_ble_eq_true rfl⟩ rfl (k_46_1_2 (I := I6) (A := A6) (p := p) (m := (nmb N l).length) (q := q) (o := nI N) b6.1 hp8 b6.2.1 b6.2.2.1 (fun A7 y7 u7 v7 w7 => ?_))
            show mq 58 159 [some (.ref 1), some (.int (nI 1)), some (.int (nI p)), some (.int q), some (.ref 53), some (.int (nI 0)), some (.int (-1)), some (.int (nI N))] [] (hS n u I6 A7 J B 60 53 L xs X) _
            refine x_il2 (pc := 159) rfl rfl ?_
            refine x_ret (pc := 161) rfl rfl ?_
            rw [nmb_len] at v7
            exact kk S6 f6 c6 e6 o6 I6 A7 (Fr_cons (Fr_u (Fr_u (Fr_u (Fr_refl _ _) (by decide)) (by decide)) (by decide)) x6 (by decide)) (Fr_cons (Fr_cons (Fr_refl _ _) y6 (by decide)) y7 (by decide)) (kD_on h6 o6 (Fr_refl [] I6) y7 (by decide) (by decide)) ((x6 31 (by decide)).trans rfl) n6 d6 (fun j hj => by rw [y7 34 (by decide)]; exact s6 j hj) (by rw [u7, y6 35 (by decide)]) (by rw [v7, y6 36 (by decide)]) (by rw [w7, y6 37 (by decide)])
          · omega
  · exact absurd c12 (nI_m1 (by omega))
set_option maxRecDepth 100000 in
set_option maxHeartbeats 4000000 in
theorem k_58a_53_1 {S : DS} {mq0 : Nat} {q : Int32} {l : List R5} (hD : kD mq0 S I A) (ho : dO S = false) (hC : BC 2 I A l) (hl1 : 1 ≤ l.length) (hl4 : l.length ≤ 4) {cn N : Nat} {f : Nat → Nat} (hcn : cn ≤ 16) (hc : I 43 = nI cn) (hf : ∀ k, k < cn → f k < 16) (hsl : ∀ j, j < cn → A 34 j = nI (f j)) (hN : I 45 = nI N) (hNb : N + 4 < 2 ^ 31) (hroom : frS (dD S) 16 0 = -1 ∨ cn < 16) (hn : 77 ≤ n ∧ n < 10000) (hu : u + 6 < 1000000) {Q : mO × mHp → Prop} (kk : ∀ S' f' cn', apS S 1 f cn N (nI 255) (nI 0) (nmb N l) = some (S', f', cn') → dO S' = false → ∀ I' A', Fr [2, 3, 14, 15, 43, 45, 26, 27, 31] I I' → Fr [0, 3, 4, 34, 20] A A' → kD 60 S' I' A' → I' 31 = nI 0 → I' 45 = nI (N + l.length) → I' 43 = nI cn' → (∀ j, j < cn' → A' 34 j = nI (f' j)) → Q (.inl (some (.int (nI N))), hS n u I' A' J B 60 53 L xs X)) (kx : ∀ S' f' cn', apS S 1 f cn N (nI 255) (nI 0) (nmb N l) = some (S', f', cn') → dO S' = true → ∀ I' A', Up 60 I I' → Up 50 A A' → kD 60 S' I' A' → Q (.inr n, hS (n + 1) (u + 6) I' A' J B 60 53 L xs (va_up X n (.inr (9, []))))) (kr : apS S 1 f cn N (nI 255) (nI 0) (nmb N l) = none → ∀ I' A', Fr [14, 26, 27, 31] I I' → Fr [3, 20] A A' → I' 31 = nI 0 → Q (.inr n, hS (n + 1) (u + 6) I' A' J B 60 53 L xs (va_up X n (.inr (11, []))))) : mq 58 0 [some (.ref 1), some (.int (nI 1)), some (.int (-1)), some (.int q), none, none, none, none] [] (hS n u I A J B 53 60 L xs X) Q := by
  refine x_al1 (pc := 0) rfl rfl ?_
  refine x_k (pc := 1) rfl rfl rfl ⟨Nat.le_of_ble_eq_true rfl, Nat.le_of_ble_eq_true rfl, Nat.le_of_ble_eq_true rfl⟩ rfl (k_59_53 (I := I) (A := A) ?_)
  show mq 58 4 [some (.ref 1), some (.int (nI 1)), some (.int (-1)), some (.int q), none, none, none, none] [.ref 53] (hS n u (va_up I 31 (nI 0)) A J B 60 53 L xs X) _
  refine x_as2 (pc := 4) (ml' := [some (.ref 1), some (.int (nI 1)), some (.int (-1)), some (.int q), some (.ref 53), none, none, none]) rfl rfl ?_
  refine x_al1 (pc := 6) rfl rfl ?_
  refine x_k (pc := 7) rfl rfl rfl ⟨Nat.le_of_ble_eq_true rfl, Nat.le_of_ble_eq_true rfl, Nat.le_of_ble_eq_true rfl⟩ rfl (k_60 (I := va_up I 31 (nI 0)) ((show (va_up I 31 (nI 0)) 0 = I 0 from rfl).trans (kD_1 hD ho)) ?_)
  show mq 58 10 [some (.ref 1), some (.int (nI 1)), some (.int (-1)), some (.int q), some (.ref 53), none, none, none] [] (hS n u (va_up I 31 (nI 0)) A J B 60 53 L xs X) _
  refine x_il1 (pc := 10) rfl rfl ?_
  refine x_const (pc := 11) (pc' := 12) (.int (-1)) rfl rfl rfl rfl ?_
  refine x_cmp_ne (pc := 12) (t := 19) rfl rfl rfl (fun c12 => ?_) (fun c12 => ?_)
  · exact absurd rfl c12
  · refine x_const (pc := 15) (pc' := 16) (.int (nI 1)) rfl rfl rfl rfl ?_
    refine x_step (pc := 16) (pc' := 20) rfl rfl rfl rfl ?_
    refine x_is2 (pc := 20) (ml' := [some (.ref 1), some (.int (nI 1)), some (.int (-1)), some (.int q), some (.ref 53), some (.int (nI 1)), none, none]) rfl rfl ?_
    refine x_il1 (pc := 22) rfl rfl ?_
    refine x_ifN_lt (pc := 23) (t := 62) rfl rfl (by omega) ?_
    refine x_il1 (pc := 26) rfl rfl ?_
    refine x_const (pc := 27) (pc' := 28) (.int (nI 3)) rfl rfl rfl rfl ?_
    refine x_cmpN_ge (pc := 28) (t := 62) rfl rfl (by decide) (by decide) (fun c => absurd c (by decide)) (fun _ => ?_)
    refine x_il1 (pc := 31) rfl rfl ?_
    refine x_const (pc := 32) (pc' := 33) (.int (-1)) rfl rfl rfl rfl ?_
    refine x_cmp_lt (pc := 33) (t := 62) rfl rfl rfl (fun c33 => ?_) (fun c33 => ?_)
    · exact absurd c33 (by decide)
    · refine x_il1 (pc := 36) rfl rfl ?_
      refine x_const (pc := 37) (pc' := 39) (.int (nI 8)) rfl rfl rfl rfl ?_
      refine x_cmp_ge (pc := 39) (t := 62) rfl rfl rfl (fun c39 => ?_) (fun c39 => ?_)
      · exact absurd c39 (by decide)
      · refine x_il2 (pc := 42) rfl rfl ?_
        refine x_ifN_ne (pc := 44) (t := 51) rfl rfl (by decide) (fun _ => ?_) (fun c => absurd c (by decide))
        refine x_al2 (pc := 51) rfl rfl ?_
        refine g_53_0 (pc := 53) rfl rfl ?_
        refine g_54_5 (pc := 56) (v := nI l.length) rfl rfl hC.1 ?_
        refine x_ifN_ne (pc := 59) (t := 72) rfl rfl (by omega) (fun c59 => ?_) (fun c59 => ?_)
        · refine x_al2 (pc := 72) rfl rfl ?_
          refine x_il2 (pc := 74) rfl rfl ?_
          refine x_ifN_eq (pc := 76) (t := 85) rfl rfl (by decide) (fun c => absurd c (by decide)) (fun _ => ?_)
          refine x_const (pc := 79) (pc' := 82) (.int (nI 255)) rfl rfl rfl rfl ?_
          refine x_step (pc := 82) (pc' := 86) rfl rfl rfl rfl ?_
          refine x_il2 (pc := 86) rfl rfl ?_
          refine x_ifN_eq (pc := 88) (t := 95) rfl rfl (by decide) (fun c => absurd c (by decide)) (fun _ => ?_)
          refine x_const (pc := 91) (pc' := 92) (.int (nI 0)) rfl rfl rfl rfl ?_
          refine x_step (pc := 92) (pc' := 96) rfl rfl rfl rfl ?_
          refine x_k (pc := 96) rfl rfl rfl ⟨Nat.le_of_ble_eq_true rfl, Nat.le_of_ble_eq_true rfl, Nat.le_of_ble_eq_true rfl⟩ rfl (mq_k (c_43_2 (I := va_up I 31 (nI 0)) (A := A) _ _) ?_)
          show mq 58 99 [some (.ref 1), some (.int (nI 1)), some (.int (-1)), some (.int q), some (.ref 53), some (.int (nI 1)), none, none] [] (hS n u (va_up (va_up (va_up I 31 (nI 0)) 26 (nI 255)) 27 (nI 0)) A J B 60 53 L xs X) _
          refine x_al1 (pc := 99) rfl rfl ?_
          refine g_1_2 (pc := 100) rfl rfl ?_
          refine x_il1 (pc := 103) rfl rfl ?_
          refine aal (pc := 104) (q := 1) (a := 18) rfl rfl (by decide) rfl ?_
          refine x_al2 (pc := 105) rfl rfl ?_
          refine x_k (pc := 107) rfl rfl rfl ⟨Nat.le_of_ble_eq_true rfl, Nat.le_of_ble_eq_true rfl, Nat.le_of_ble_eq_true rfl⟩ rfl (k_61n_1_53 (I := va_up (va_up (va_up I 31 (nI 0)) 26 (nI 255)) 27 (nI 0)) (A := A) rfl ?_)
          show mq 58 110 [some (.ref 1), some (.int (nI 1)), some (.int (-1)), some (.int q), some (.ref 53), some (.int (nI 1)), none, none] [.int (-1)] (hS n u (va_up (va_up (va_up I 31 (nI 0)) 26 (nI 255)) 27 (nI 0)) A J B 60 53 L xs X) _
          refine x_is2 (pc := 110) (ml' := [some (.ref 1), some (.int (nI 1)), some (.int (-1)), some (.int q), some (.ref 53), some (.int (nI 1)), some (.int (-1)), none]) rfl rfl ?_
          refine x_il2 (pc := 112) rfl rfl ?_
          refine x_if_lt (pc := 114) (t := 120) rfl rfl rfl (fun _ => ?_) (fun c => absurd (by decide) c)
          refine x_al1 (pc := 120) rfl rfl ?_
          refine x_al1 (pc := 121) rfl rfl ?_
          refine g_1_2 (pc := 122) rfl rfl ?_
          refine x_il1 (pc := 125) rfl rfl ?_
          refine aal (pc := 126) (q := 1) (a := 18) rfl rfl (by decide) rfl ?_
          refine x_al2 (pc := 127) rfl rfl ?_
          refine x_k (pc := 129) rfl rfl rfl ⟨Nat.le_of_ble_eq_true rfl, Nat.le_of_ble_eq_true rfl, Nat.le_of_ble_eq_true rfl⟩ rfl (k_62n_1_53 (I := va_up (va_up (va_up I 31 (nI 0)) 26 (nI 255)) 27 (nI 0)) (A := A) rfl ?_)
          show mq 58 132 [some (.ref 1), some (.int (nI 1)), some (.int (-1)), some (.int q), some (.ref 53), some (.int (nI 1)), some (.int (-1)), none] [] (hS n u (va_up (va_up (va_up I 31 (nI 0)) 26 (nI 255)) 27 (nI 0)) A J B 60 53 L xs X) _
          refine x_al1 (pc := 132) rfl rfl ?_
          refine x_al1 (pc := 133) rfl rfl ?_
          refine g_1_2 (pc := 134) rfl rfl ?_
          refine x_il1 (pc := 137) rfl rfl ?_
          refine aal (pc := 138) (q := 1) (a := 18) rfl rfl (by decide) rfl ?_
          refine x_al2 (pc := 139) rfl rfl ?_
          refine x_k (pc := 141) rfl rfl rfl ⟨Nat.le_of_ble_eq_true rfl, Nat.le_of_ble_eq_true rfl, Nat.le_of_ble_eq_true rfl⟩ rfl (k_63_1_2 (mk := 60) (sn := 53) (I := va_up (va_up (va_up I 31 (nI 0)) 26 (nI 255)) 27 (nI 0)) (A := A) (S := S) (f := f) (N := N) (l := l) (p := nI 255) (q := nI 0) (kD_on (kD_mk hD ho) ho (show Fr [26, 27, 31] I (va_up (va_up (va_up I 31 (nI 0)) 26 (nI 255)) 27 (nI 0)) from (Fr_u (Fr_u (Fr_u (Fr_refl _ I) (by decide)) (by decide)) (by decide))) (Fr_refl [] A) (by decide) (by decide)) ho (Or.inr ⟨rfl, rfl⟩) hn hu hcn hc hf hsl hN hNb ⟨rfl, rfl, hC.1, hC.2⟩ hl1 hl4 hroom (fun S6 f6 c6 e6 o6 I6 A6 x6 y6 h6 n6 b6 d6 s6 => ?_) (fun S6 f6 c6 e6 o6 I6 A6 x6 y6 h6 => mK_x rfl (kx S6 f6 c6 e6 o6 I6 A6 (Up_tr (Up_fr (show Fr [26, 27, 31] I (va_up (va_up (va_up I 31 (nI 0)) 26 (nI 255)) 27 (nI 0)) from (Fr_u (Fr_u (Fr_u (Fr_refl _ I) (by decide)) (by decide)) (by decide))) (by decide)) x6) y6 h6)) (fun e6 I6 A6 x6 y6 => mK_x rfl (kr e6 I6 A6 (Fr_cons (Fr_u (Fr_u (Fr_u (Fr_refl _ I) (by decide)) (by decide)) (by decide)) x6 (by decide)) y6 ((x6 31 (by decide)).trans rfl))))
          show mq 58 144 [some (.ref 1), some (.int (nI 1)), some (.int (-1)), some (.int q), some (.ref 53), some (.int (nI 1)), some (.int (-1)), none] [.int (nI N)] (hS n u I6 A6 J B 60 53 L xs X) _
          refine x_is2 (pc := 144) (ml' := [some (.ref 1), some (.int (nI 1)), some (.int (-1)), some (.int q), some (.ref 53), some (.int (nI 1)), some (.int (-1)), some (.int (nI N))]) rfl rfl ?_
          refine x_al1 (pc := 146) rfl rfl ?_
          refine g_1_2 (pc := 147) rfl rfl ?_
          refine x_il1 (pc := 150) rfl rfl ?_
          refine aal (pc := 151) (q := 1) (a := 18) rfl rfl (by decide) rfl ?_
          refine x_al2 (pc := 152) rfl rfl ?_
          refine x_il2 (pc := 154) rfl rfl ?_
          refine x_k (pc := 156) rfl rfl rfl ⟨Nat.le_of_ble_eq_true rfl, Nat.le_of_ble_eq_true rfl, Nat.le_of_ble_eq_true rfl⟩ rfl (k_46n_1_2 (I := I6) (A := A6) (p := 255) (o := nI N) b6.1 (by decide) ?_)
          show mq 58 159 [some (.ref 1), some (.int (nI 1)), some (.int (-1)), some (.int q), some (.ref 53), some (.int (nI 1)), some (.int (-1)), some (.int (nI N))] [] (hS n u I6 A6 J B 60 53 L xs X) _
          refine x_il2 (pc := 159) rfl rfl ?_
          refine x_ret (pc := 161) rfl rfl ?_
          exact kk S6 f6 c6 e6 o6 I6 A6 (Fr_cons (Fr_u (Fr_u (Fr_u (Fr_refl _ _) (by decide)) (by decide)) (by decide)) x6 (by decide)) (Fr_cons (Fr_refl _ _) y6 (by decide)) h6 ((x6 31 (by decide)).trans rfl) n6 d6 s6
        · omega
set_option maxRecDepth 100000 in
set_option maxHeartbeats 4000000 in
theorem k_58s_53_2 {S : DS} {mq0 p m : Nat} {q : Int32} {l : List R5} (hD : kD mq0 S I A) (ho : dO S = false) (hC : BC 2 I A l) (hl1 : 1 ≤ l.length) (hl4 : l.length ≤ 4) (hp8 : p < 8) (hq0 : ¬ q < 0) (hm : A 40 p = nI m) (hm5 : m < 5) (hs1 : ¬ m = 0) (hs2 : A 39 p = q) (hs3 : m = l.length) {o : Nat} (ho9 : A 41 p = nI o) (ho31 : o < 2 ^ 31) {Q : mO × mHp → Prop} (kk : Q (.inl (some (.int (A 41 p))), hS n u (va_up (va_up (va_up I 31 (nI 0)) 26 (nI p)) 27 q) A J B 60 53 L xs X)) : mq 58 0 [some (.ref 1), some (.int (nI 2)), some (.int (nI p)), some (.int q), none, none, none, none] [] (hS n u I A J B 53 60 L xs X) Q := by
  refine x_al1 (pc := 0) rfl rfl ?_
  refine x_k (pc := 1) rfl rfl rfl ⟨Nat.le_of_ble_eq_true rfl, Nat.le_of_ble_eq_true rfl, Nat.le_of_ble_eq_true rfl⟩ rfl (k_59_53 (I := I) (A := A) ?_)
  show mq 58 4 [some (.ref 1), some (.int (nI 2)), some (.int (nI p)), some (.int q), none, none, none, none] [.ref 53] (hS n u (va_up I 31 (nI 0)) A J B 60 53 L xs X) _
  refine x_as2 (pc := 4) (ml' := [some (.ref 1), some (.int (nI 2)), some (.int (nI p)), some (.int q), some (.ref 53), none, none, none]) rfl rfl ?_
  refine x_al1 (pc := 6) rfl rfl ?_
  refine x_k (pc := 7) rfl rfl rfl ⟨Nat.le_of_ble_eq_true rfl, Nat.le_of_ble_eq_true rfl, Nat.le_of_ble_eq_true rfl⟩ rfl (k_60 (I := va_up I 31 (nI 0)) ((show (va_up I 31 (nI 0)) 0 = I 0 from rfl).trans (kD_1 hD ho)) ?_)
  show mq 58 10 [some (.ref 1), some (.int (nI 2)), some (.int (nI p)), some (.int q), some (.ref 53), none, none, none] [] (hS n u (va_up I 31 (nI 0)) A J B 60 53 L xs X) _
  refine x_il1 (pc := 10) rfl rfl ?_
  refine x_const (pc := 11) (pc' := 12) (.int (-1)) rfl rfl rfl rfl ?_
  refine x_cmp_ne (pc := 12) (t := 19) rfl rfl rfl (fun c12 => ?_) (fun c12 => ?_)
  · refine x_const (pc := 19) (pc' := 20) (.int (nI 0)) rfl rfl rfl rfl ?_
    refine x_is2 (pc := 20) (ml' := [some (.ref 1), some (.int (nI 2)), some (.int (nI p)), some (.int q), some (.ref 53), some (.int (nI 0)), none, none]) rfl rfl ?_
    refine x_il1 (pc := 22) rfl rfl ?_
    refine x_ifN_lt (pc := 23) (t := 62) rfl rfl (by omega) ?_
    refine x_il1 (pc := 26) rfl rfl ?_
    refine x_const (pc := 27) (pc' := 28) (.int (nI 3)) rfl rfl rfl rfl ?_
    refine x_cmpN_ge (pc := 28) (t := 62) rfl rfl (by decide) (by decide) (fun c => absurd c (by decide)) (fun _ => ?_)
    refine x_il1 (pc := 31) rfl rfl ?_
    refine x_const (pc := 32) (pc' := 33) (.int (-1)) rfl rfl rfl rfl ?_
    refine x_cmp_lt (pc := 33) (t := 62) rfl rfl rfl (fun c33 => ?_) (fun c33 => ?_)
    · exact absurd c33 (nI_m1lt hp8)
    · refine x_il1 (pc := 36) rfl rfl ?_
      refine x_const (pc := 37) (pc' := 39) (.int (nI 8)) rfl rfl rfl rfl ?_
      refine x_cmpN_ge (pc := 39) (t := 62) rfl rfl (by omega) (by omega) (fun c39 => ?_) (fun c39 => ?_)
      · omega
      · refine x_il2 (pc := 42) rfl rfl ?_
        refine x_ifN_ne (pc := 44) (t := 51) rfl rfl (by decide) (fun c => absurd c (by decide)) (fun _ => ?_)
        refine x_il1 (pc := 47) rfl rfl ?_
        refine x_if_lt (pc := 48) (t := 62) rfl rfl rfl (fun c48 => ?_) (fun c48 => ?_)
        · exact absurd c48 hq0
        · refine x_al2 (pc := 51) rfl rfl ?_
          refine g_53_0 (pc := 53) rfl rfl ?_
          refine g_54_5 (pc := 56) (v := nI l.length) rfl rfl hC.1 ?_
          refine x_ifN_ne (pc := 59) (t := 72) rfl rfl (by omega) (fun c59 => ?_) (fun c59 => ?_)
          · refine x_al2 (pc := 72) rfl rfl ?_
            refine x_il2 (pc := 74) rfl rfl ?_
            refine x_ifN_eq (pc := 76) (t := 85) rfl rfl (by decide) (fun _ => ?_) (fun c => absurd c (by decide))
            refine x_il1 (pc := 85) rfl rfl ?_
            refine x_il2 (pc := 86) rfl rfl ?_
            refine x_ifN_eq (pc := 88) (t := 95) rfl rfl (by decide) (fun _ => ?_) (fun c => absurd c (by decide))
            refine x_il1 (pc := 95) rfl rfl ?_
            refine x_k (pc := 96) rfl rfl rfl ⟨Nat.le_of_ble_eq_true rfl, Nat.le_of_ble_eq_true rfl, Nat.le_of_ble_eq_true rfl⟩ rfl (mq_k (c_43_2 (I := va_up I 31 (nI 0)) (A := A) _ _) ?_)
            show mq 58 99 [some (.ref 1), some (.int (nI 2)), some (.int (nI p)), some (.int q), some (.ref 53), some (.int (nI 0)), none, none] [] (hS n u (va_up (va_up (va_up I 31 (nI 0)) 26 (nI p)) 27 q) A J B 60 53 L xs X) _
            refine x_al1 (pc := 99) rfl rfl ?_
            refine g_1_2 (pc := 100) rfl rfl ?_
            refine x_il1 (pc := 103) rfl rfl ?_
            refine aal (pc := 104) (q := 2) (a := 23) rfl rfl (by decide) rfl ?_
            refine x_al2 (pc := 105) rfl rfl ?_
            refine x_k (pc := 107) rfl rfl rfl ⟨Nat.le_of_ble_eq_true rfl, Nat.le_of_ble_eq_true rfl, Nat.le_of_ble_eq_true rfl⟩ rfl (k_61s_2_53 (I := va_up (va_up (va_up I 31 (nI 0)) 26 (nI p)) 27 q) (A := A) (p := p) (q := q) rfl hp8 rfl hC.1 hl4 hm hm5 hs1 hs2 hs3 ?_)
            show mq 58 110 [some (.ref 1), some (.int (nI 2)), some (.int (nI p)), some (.int q), some (.ref 53), some (.int (nI 0)), none, none] [.int (A 41 p)] (hS n u (va_up (va_up (va_up I 31 (nI 0)) 26 (nI p)) 27 q) A J B 60 53 L xs X) _
            refine x_top (y := nI o) (ho9) ?_
            refine x_is2 (pc := 110) (ml' := [some (.ref 1), some (.int (nI 2)), some (.int (nI p)), some (.int q), some (.ref 53), some (.int (nI 0)), some (.int (nI o)), none]) rfl rfl ?_
            refine x_il2 (pc := 112) rfl rfl ?_
            refine x_ifN_lt (pc := 114) (t := 120) rfl rfl (by omega) ?_
            refine x_il2 (pc := 117) rfl rfl ?_
            refine x_ret (pc := 119) rfl rfl ?_
            rw [← ho9]
            exact kk
          · omega
  · exact absurd c12 (nI_m1 (by omega))
set_option maxRecDepth 100000 in
set_option maxHeartbeats 4000000 in
theorem k_58o_53_2 {S : DS} {mq0 p m : Nat} {q : Int32} {l : List R5} (hD : kD mq0 S I A) (ho : dO S = false) (hC : BC 2 I A l) (hl1 : 1 ≤ l.length) (hl4 : l.length ≤ 4) (hp8 : p < 8) (hq0 : ¬ q < 0) (hm : A 40 p = nI m) (hm5 : m < 5) (hns : ¬ (¬ m = 0 ∧ A 39 p = q ∧ m = l.length)) (hm0 : ¬ m = 0) (hor : ¬ A 39 p + nI m = q) (hn : 77 ≤ n ∧ n < 10000) (hu : u + 6 < 1000000) {Q : mO × mHp → Prop} (kk : Q (.inr n, hS (n + 1) (u + 6) (va_up (va_up (va_up I 31 (nI 0)) 26 (nI p)) 27 q) A J B 60 53 L xs (va_up X n (.inr (11, []))))) : mq 58 0 [some (.ref 1), some (.int (nI 2)), some (.int (nI p)), some (.int q), none, none, none, none] [] (hS n u I A J B 53 60 L xs X) Q := by
  refine x_al1 (pc := 0) rfl rfl ?_
  refine x_k (pc := 1) rfl rfl rfl ⟨Nat.le_of_ble_eq_true rfl, Nat.le_of_ble_eq_true rfl, Nat.le_of_ble_eq_true rfl⟩ rfl (k_59_53 (I := I) (A := A) ?_)
  show mq 58 4 [some (.ref 1), some (.int (nI 2)), some (.int (nI p)), some (.int q), none, none, none, none] [.ref 53] (hS n u (va_up I 31 (nI 0)) A J B 60 53 L xs X) _
  refine x_as2 (pc := 4) (ml' := [some (.ref 1), some (.int (nI 2)), some (.int (nI p)), some (.int q), some (.ref 53), none, none, none]) rfl rfl ?_
  refine x_al1 (pc := 6) rfl rfl ?_
  refine x_k (pc := 7) rfl rfl rfl ⟨Nat.le_of_ble_eq_true rfl, Nat.le_of_ble_eq_true rfl, Nat.le_of_ble_eq_true rfl⟩ rfl (k_60 (I := va_up I 31 (nI 0)) ((show (va_up I 31 (nI 0)) 0 = I 0 from rfl).trans (kD_1 hD ho)) ?_)
  show mq 58 10 [some (.ref 1), some (.int (nI 2)), some (.int (nI p)), some (.int q), some (.ref 53), none, none, none] [] (hS n u (va_up I 31 (nI 0)) A J B 60 53 L xs X) _
  refine x_il1 (pc := 10) rfl rfl ?_
  refine x_const (pc := 11) (pc' := 12) (.int (-1)) rfl rfl rfl rfl ?_
  refine x_cmp_ne (pc := 12) (t := 19) rfl rfl rfl (fun c12 => ?_) (fun c12 => ?_)
  · refine x_const (pc := 19) (pc' := 20) (.int (nI 0)) rfl rfl rfl rfl ?_
    refine x_is2 (pc := 20) (ml' := [some (.ref 1), some (.int (nI 2)), some (.int (nI p)), some (.int q), some (.ref 53), some (.int (nI 0)), none, none]) rfl rfl ?_
    refine x_il1 (pc := 22) rfl rfl ?_
    refine x_ifN_lt (pc := 23) (t := 62) rfl rfl (by omega) ?_
    refine x_il1 (pc := 26) rfl rfl ?_
    refine x_const (pc := 27) (pc' := 28) (.int (nI 3)) rfl rfl rfl rfl ?_
    refine x_cmpN_ge (pc := 28) (t := 62) rfl rfl (by decide) (by decide) (fun c => absurd c (by decide)) (fun _ => ?_)
    refine x_il1 (pc := 31) rfl rfl ?_
    refine x_const (pc := 32) (pc' := 33) (.int (-1)) rfl rfl rfl rfl ?_
    refine x_cmp_lt (pc := 33) (t := 62) rfl rfl rfl (fun c33 => ?_) (fun c33 => ?_)
    · exact absurd c33 (nI_m1lt hp8)
    · refine x_il1 (pc := 36) rfl rfl ?_
      refine x_const (pc := 37) (pc' := 39) (.int (nI 8)) rfl rfl rfl rfl ?_
      refine x_cmpN_ge (pc := 39) (t := 62) rfl rfl (by omega) (by omega) (fun c39 => ?_) (fun c39 => ?_)
      · omega
      · refine x_il2 (pc := 42) rfl rfl ?_
        refine x_ifN_ne (pc := 44) (t := 51) rfl rfl (by decide) (fun c => absurd c (by decide)) (fun _ => ?_)
        refine x_il1 (pc := 47) rfl rfl ?_
        refine x_if_lt (pc := 48) (t := 62) rfl rfl rfl (fun c48 => ?_) (fun c48 => ?_)
        · exact absurd c48 hq0
        · refine x_al2 (pc := 51) rfl rfl ?_
          refine g_53_0 (pc := 53) rfl rfl ?_
          refine g_54_5 (pc := 56) (v := nI l.length) rfl rfl hC.1 ?_
          refine x_ifN_ne (pc := 59) (t := 72) rfl rfl (by omega) (fun c59 => ?_) (fun c59 => ?_)
          · refine x_al2 (pc := 72) rfl rfl ?_
            refine x_il2 (pc := 74) rfl rfl ?_
            refine x_ifN_eq (pc := 76) (t := 85) rfl rfl (by decide) (fun _ => ?_) (fun c => absurd c (by decide))
            refine x_il1 (pc := 85) rfl rfl ?_
            refine x_il2 (pc := 86) rfl rfl ?_
            refine x_ifN_eq (pc := 88) (t := 95) rfl rfl (by decide) (fun _ => ?_) (fun c => absurd c (by decide))
            refine x_il1 (pc := 95) rfl rfl ?_
            refine x_k (pc := 96) rfl rfl rfl ⟨Nat.le_of_ble_eq_true rfl, Nat.le_of_ble_eq_true rfl, Nat.le_of_ble_eq_true rfl⟩ rfl (mq_k (c_43_2 (I := va_up I 31 (nI 0)) (A := A) _ _) ?_)
            show mq 58 99 [some (.ref 1), some (.int (nI 2)), some (.int (nI p)), some (.int q), some (.ref 53), some (.int (nI 0)), none, none] [] (hS n u (va_up (va_up (va_up I 31 (nI 0)) 26 (nI p)) 27 q) A J B 60 53 L xs X) _
            refine x_al1 (pc := 99) rfl rfl ?_
            refine g_1_2 (pc := 100) rfl rfl ?_
            refine x_il1 (pc := 103) rfl rfl ?_
            refine aal (pc := 104) (q := 2) (a := 23) rfl rfl (by decide) rfl ?_
            refine x_al2 (pc := 105) rfl rfl ?_
            refine x_k (pc := 107) rfl rfl rfl ⟨Nat.le_of_ble_eq_true rfl, Nat.le_of_ble_eq_true rfl, Nat.le_of_ble_eq_true rfl⟩ rfl (k_61d_2_53 (I := va_up (va_up (va_up I 31 (nI 0)) 26 (nI p)) 27 q) (A := A) (p := p) (q := q) rfl hp8 rfl hC.1 hl4 hm hm5 hns ?_)
            show mq 58 110 [some (.ref 1), some (.int (nI 2)), some (.int (nI p)), some (.int q), some (.ref 53), some (.int (nI 0)), none, none] [.int (-1)] (hS n u (va_up (va_up (va_up I 31 (nI 0)) 26 (nI p)) 27 q) A J B 60 53 L xs X) _
            refine x_is2 (pc := 110) (ml' := [some (.ref 1), some (.int (nI 2)), some (.int (nI p)), some (.int q), some (.ref 53), some (.int (nI 0)), some (.int (-1)), none]) rfl rfl ?_
            refine x_il2 (pc := 112) rfl rfl ?_
            refine x_if_lt (pc := 114) (t := 120) rfl rfl rfl (fun _ => ?_) (fun c => absurd (by decide) c)
            refine x_al1 (pc := 120) rfl rfl ?_
            refine x_al1 (pc := 121) rfl rfl ?_
            refine g_1_2 (pc := 122) rfl rfl ?_
            refine x_il1 (pc := 125) rfl rfl ?_
            refine aal (pc := 126) (q := 2) (a := 23) rfl rfl (by decide) rfl ?_
            refine x_al2 (pc := 127) rfl rfl ?_
            refine x_k (pc := 129) rfl rfl rfl ⟨Nat.le_of_ble_eq_true rfl, Nat.le_of_ble_eq_true rfl, Nat.le_of_ble_eq_true rfl⟩ rfl (k_62x_2_53 (I := va_up (va_up (va_up I 31 (nI 0)) 26 (nI p)) 27 q) (A := A) (p := p) (q := q) rfl hp8 rfl hC.1 hl4 hm hm5 hm0 hor hn hu (mK_x rfl kk))
          · omega
  · exact absurd c12 (nI_m1 (by omega))
set_option maxRecDepth 100000 in
set_option maxHeartbeats 4000000 in
theorem k_58p_53_2 {S : DS} {mq0 p m : Nat} {q : Int32} {l : List R5} (hD : kD mq0 S I A) (ho : dO S = false) (hC : BC 2 I A l) (hl1 : 1 ≤ l.length) (hl4 : l.length ≤ 4) (hp8 : p < 8) (hq0 : ¬ q < 0) (hm : A 40 p = nI m) (hm5 : m < 5) (hns : ¬ (¬ m = 0 ∧ A 39 p = q ∧ m = l.length)) (hor : m = 0 ∨ A 39 p + nI m = q) {cn N : Nat} {f : Nat → Nat} (hcn : cn ≤ 16) (hc : I 46 = nI cn) (hf : ∀ k, k < cn → f k < 16) (hsl : ∀ j, j < cn → A 38 j = nI (f j)) (hN : I 48 = nI N) (hNb : N + 4 < 2 ^ 31) (hroom : frS (dD S) 16 0 = -1 ∨ cn < 16) (hn : 77 ≤ n ∧ n < 10000) (hu : u + 6 < 1000000) {Q : mO × mHp → Prop} (kk : ∀ S' f' cn', apS S 2 f cn N (nI p) q (nmb N l) = some (S', f', cn') → dO S' = false → ∀ I' A', Fr [2, 3, 14, 15, 46, 48, 26, 27, 31] I I' → Fr [0, 3, 4, 38, 20, 39, 40, 41] A A' → kD 60 S' I' A' → I' 31 = nI 0 → I' 48 = nI (N + l.length) → I' 46 = nI cn' → (∀ j, j < cn' → A' 38 j = nI (f' j)) → A' 39 = upd (A 39) p q → A' 40 = upd (A 40) p (nI l.length) → A' 41 = upd (A 41) p (nI N) → Q (.inl (some (.int (nI N))), hS n u I' A' J B 60 53 L xs X)) (kx : ∀ S' f' cn', apS S 2 f cn N (nI p) q (nmb N l) = some (S', f', cn') → dO S' = true → ∀ I' A', Up 60 I I' → Up 50 A A' → kD 60 S' I' A' → Q (.inr n, hS (n + 1) (u + 6) I' A' J B 60 53 L xs (va_up X n (.inr (9, []))))) (kr : apS S 2 f cn N (nI p) q (nmb N l) = none → ∀ I' A', Fr [14, 26, 27, 31] I I' → Fr [3, 20] A A' → I' 31 = nI 0 → Q (.inr n, hS (n + 1) (u + 6) I' A' J B 60 53 L xs (va_up X n (.inr (11, []))))) : mq 58 0 [some (.ref 1), some (.int (nI 2)), some (.int (nI p)), some (.int q), none, none, none, none] [] (hS n u I A J B 53 60 L xs X) Q := by
  refine x_al1 (pc := 0) rfl rfl ?_
  refine x_k (pc := 1) rfl rfl rfl ⟨Nat.le_of_ble_eq_true rfl, Nat.le_of_ble_eq_true rfl, Nat.le_of_ble_eq_true rfl⟩ rfl (k_59_53 (I := I) (A := A) ?_)
  show mq 58 4 [some (.ref 1), some (.int (nI 2)), some (.int (nI p)), some (.int q), none, none, none, none] [.ref 53] (hS n u (va_up I 31 (nI 0)) A J B 60 53 L xs X) _
  refine x_as2 (pc := 4) (ml' := [some (.ref 1), some (.int (nI 2)), some (.int (nI p)), some (.int q), some (.ref 53), none, none, none]) rfl rfl ?_
  refine x_al1 (pc := 6) rfl rfl ?_
  refine x_k (pc := 7) rfl rfl rfl ⟨Nat.le_of_ble_eq_true rfl, Nat.le_of_ble_eq_true rfl, Nat.le_of_ble_eq_true rfl⟩ rfl (k_60 (I := va_up I 31 (nI 0)) ((show (va_up I 31 (nI 0)) 0 = I 0 from rfl).trans (kD_1 hD ho)) ?_)
  show mq 58 10 [some (.ref 1), some (.int (nI 2)), some (.int (nI p)), some (.int q), some (.ref 53), none, none, none] [] (hS n u (va_up I 31 (nI 0)) A J B 60 53 L xs X) _
  refine x_il1 (pc := 10) rfl rfl ?_
  refine x_const (pc := 11) (pc' := 12) (.int (-1)) rfl rfl rfl rfl ?_
  refine x_cmp_ne (pc := 12) (t := 19) rfl rfl rfl (fun c12 => ?_) (fun c12 => ?_)
  · refine x_const (pc := 19) (pc' := 20) (.int (nI 0)) rfl rfl rfl rfl ?_
    refine x_is2 (pc := 20) (ml' := [some (.ref 1), some (.int (nI 2)), some (.int (nI p)), some (.int q), some (.ref 53), some (.int (nI 0)), none, none]) rfl rfl ?_
    refine x_il1 (pc := 22) rfl rfl ?_
    refine x_ifN_lt (pc := 23) (t := 62) rfl rfl (by omega) ?_
    refine x_il1 (pc := 26) rfl rfl ?_
    refine x_const (pc := 27) (pc' := 28) (.int (nI 3)) rfl rfl rfl rfl ?_
    refine x_cmpN_ge (pc := 28) (t := 62) rfl rfl (by decide) (by decide) (fun c => absurd c (by decide)) (fun _ => ?_)
    refine x_il1 (pc := 31) rfl rfl ?_
    refine x_const (pc := 32) (pc' := 33) (.int (-1)) rfl rfl rfl rfl ?_
    refine x_cmp_lt (pc := 33) (t := 62) rfl rfl rfl (fun c33 => ?_) (fun c33 => ?_)
    · exact absurd c33 (nI_m1lt hp8)
    · refine x_il1 (pc := 36) rfl rfl ?_
      refine x_const (pc := 37) (pc' := 39) (.int (nI 8)) rfl rfl rfl rfl ?_
      refine x_cmpN_ge (pc := 39) (t := 62) rfl rfl (by omega) (by omega) (fun c39 => ?_) (fun c39 => ?_)
      · omega
      · refine x_il2 (pc := 42) rfl rfl ?_
        refine x_ifN_ne (pc := 44) (t := 51) rfl rfl (by decide) (fun c => absurd c (by decide)) (fun _ => ?_)
        refine x_il1 (pc := 47) rfl rfl ?_
        refine x_if_lt (pc := 48) (t := 62) rfl rfl rfl (fun c48 => ?_) (fun c48 => ?_)
        · exact absurd c48 hq0
        · refine x_al2 (pc := 51) rfl rfl ?_
          refine g_53_0 (pc := 53) rfl rfl ?_
          refine g_54_5 (pc := 56) (v := nI l.length) rfl rfl hC.1 ?_
          refine x_ifN_ne (pc := 59) (t := 72) rfl rfl (by omega) (fun c59 => ?_) (fun c59 => ?_)
          · refine x_al2 (pc := 72) rfl rfl ?_
            refine x_il2 (pc := 74) rfl rfl ?_
            refine x_ifN_eq (pc := 76) (t := 85) rfl rfl (by decide) (fun _ => ?_) (fun c => absurd c (by decide))
            refine x_il1 (pc := 85) rfl rfl ?_
            refine x_il2 (pc := 86) rfl rfl ?_
            refine x_ifN_eq (pc := 88) (t := 95) rfl rfl (by decide) (fun _ => ?_) (fun c => absurd c (by decide))
            refine x_il1 (pc := 95) rfl rfl ?_
            refine x_k (pc := 96) rfl rfl rfl ⟨Nat.le_of_ble_eq_true rfl, Nat.le_of_ble_eq_true rfl, Nat.le_of_ble_eq_true rfl⟩ rfl (mq_k (c_43_2 (I := va_up I 31 (nI 0)) (A := A) _ _) ?_)
            show mq 58 99 [some (.ref 1), some (.int (nI 2)), some (.int (nI p)), some (.int q), some (.ref 53), some (.int (nI 0)), none, none] [] (hS n u (va_up (va_up (va_up I 31 (nI 0)) 26 (nI p)) 27 q) A J B 60 53 L xs X) _
            refine x_al1 (pc := 99) rfl rfl ?_
            refine g_1_2 (pc := 100) rfl rfl ?_
            refine x_il1 (pc := 103) rfl rfl ?_
            refine aal (pc := 104) (q := 2) (a := 23) rfl rfl (by decide) rfl ?_
            refine x_al2 (pc := 105) rfl rfl ?_
            refine x_k (pc := 107) rfl rfl rfl ⟨Nat.le_of_ble_eq_true rfl, Nat.le_of_ble_eq_true rfl, Nat.le_of_ble_eq_true rfl⟩ rfl (k_61d_2_53 (I := va_up (va_up (va_up I 31 (nI 0)) 26 (nI p)) 27 q) (A := A) (p := p) (q := q) rfl hp8 rfl hC.1 hl4 hm hm5 hns ?_)
            show mq 58 110 [some (.ref 1), some (.int (nI 2)), some (.int (nI p)), some (.int q), some (.ref 53), some (.int (nI 0)), none, none] [.int (-1)] (hS n u (va_up (va_up (va_up I 31 (nI 0)) 26 (nI p)) 27 q) A J B 60 53 L xs X) _
            refine x_is2 (pc := 110) (ml' := [some (.ref 1), some (.int (nI 2)), some (.int (nI p)), some (.int q), some (.ref 53), some (.int (nI 0)), some (.int (-1)), none]) rfl rfl ?_
            refine x_il2 (pc := 112) rfl rfl ?_
            refine x_if_lt (pc := 114) (t := 120) rfl rfl rfl (fun _ => ?_) (fun c => absurd (by decide) c)
            refine x_al1 (pc := 120) rfl rfl ?_
            refine x_al1 (pc := 121) rfl rfl ?_
            refine g_1_2 (pc := 122) rfl rfl ?_
            refine x_il1 (pc := 125) rfl rfl ?_
            refine aal (pc := 126) (q := 2) (a := 23) rfl rfl (by decide) rfl ?_
            refine x_al2 (pc := 127) rfl rfl ?_
            refine x_k (pc := 129) rfl rfl rfl ⟨Nat.le_of_ble_eq_true rfl, Nat.le_of_ble_eq_true rfl, Nat.le_of_ble_eq_true rfl⟩ rfl (k_62_2_53 (I := va_up (va_up (va_up I 31 (nI 0)) 26 (nI p)) 27 q) (A := A) (p := p) (q := q) rfl hp8 rfl hC.1 hl4 hm hm5 hor ?_)
            show mq 58 132 [some (.ref 1), some (.int (nI 2)), some (.int (nI p)), some (.int q), some (.ref 53), some (.int (nI 0)), some (.int (-1)), none] [] (hS n u (va_up (va_up (va_up I 31 (nI 0)) 26 (nI p)) 27 q) A J B 60 53 L xs X) _
            refine x_al1 (pc := 132) rfl rfl ?_
            refine x_al1 (pc := 133) rfl rfl ?_
            refine g_1_2 (pc := 134) rfl rfl ?_
            refine x_il1 (pc := 137) rfl rfl ?_
            refine aal (pc := 138) (q := 2) (a := 23) rfl rfl (by decide) rfl ?_
            refine x_al2 (pc := 139) rfl rfl ?_
            refine x_k (pc := 141) rfl rfl rfl ⟨Nat.le_of_ble_eq_true rfl, Nat.le_of_ble_eq_true rfl, Nat.le_of_ble_eq_true rfl⟩ rfl (k_63_2_2 (mk := 60) (sn := 53) (I := va_up (va_up (va_up I 31 (nI 0)) 26 (nI p)) 27 q) (A := A) (S := S) (f := f) (N := N) (l := l) (p := nI p) (q := q) (kD_on (kD_mk hD ho) ho (show Fr [26, 27, 31] I (va_up (va_up (va_up I 31 (nI 0)) 26 (nI p)) 27 q) from (Fr_u (Fr_u (Fr_u (Fr_refl _ I) (by decide)) (by decide)) (by decide))) (Fr_refl [] A) (by decide) (by decide)) ho (Or.inr ⟨rfl, rfl⟩) hn hu hcn hc hf hsl hN hNb ⟨rfl, rfl, hC.1, hC.2⟩ hl1 hl4 hroom (fun S6 f6 c6 e6 o6 I6 A6 x6 y6 h6 n6 b6 d6 s6 => ?_) (fun S6 f6 c6 e6 o6 I6 A6 x6 y6 h6 => mK_x rfl (kx S6 f6 c6 e6 o6 I6 A6 (Up_tr (Up_fr (show Fr [26, 27, 31] I (va_up (va_up (va_up I 31 (nI 0)) 26 (nI p)) 27 q) from (Fr_u (Fr_u (Fr_u (Fr_refl _ I) (by decide)) (by decide)) (by decide))) (by decide)) x6) y6 h6)) (fun e6 I6 A6 x6 y6 => mK_x rfl (kr e6 I6 A6 (Fr_cons (Fr_u (Fr_u (Fr_u (Fr_refl _ I) (by decide)) (by decide)) (by decide)) x6 (by decide)) y6 ((x6 31 (by decide)).trans rfl))))
            show mq 58 144 [some (.ref 1), some (.int (nI 2)), some (.int (nI p)), some (.int q), some (.ref 53), some (.int (nI 0)), some (.int (-1)), none] [.int (nI N)] (hS n u I6 A6 J B 60 53 L xs X) _
            refine x_is2 (pc := 144) (ml' := [some (.ref 1), some (.int (nI 2)), some (.int (nI p)), some (.int q), some (.ref 53), some (.int (nI 0)), some (.int (-1)), some (.int (nI N))]) rfl rfl ?_
            refine x_al1 (pc := 146) rfl rfl ?_
            refine g_1_2 (pc := 147) rfl rfl ?_
            refine x_il1 (pc := 150) rfl rfl ?_
            refine aal (pc := 151) (q := 2) (a := 23) rfl rfl (by decide) rfl ?_
            refine x_al2 (pc := 152) rfl rfl ?_
            refine x_il2 (pc := 154) rfl rfl ?_
            refine x_k (pc := 156) rfl rfl rfl ⟨Nat.le_of_ble_eq_true rfl, Nat.le_of_ble_eq_true rfl, Nat.le_of_ble_eq_true rfl⟩ rfl (k_46_2_2 (I := I6) (A := A6) (p := p) (m := (nmb N l).length) (q := q) (o := nI N) b6.1 hp8 b6.2.1 b6.2.2.1 (fun A7 y7 u7 v7 w7 => ?_))
            show mq 58 159 [some (.ref 1), some (.int (nI 2)), some (.int (nI p)), some (.int q), some (.ref 53), some (.int (nI 0)), some (.int (-1)), some (.int (nI N))] [] (hS n u I6 A7 J B 60 53 L xs X) _
            refine x_il2 (pc := 159) rfl rfl ?_
            refine x_ret (pc := 161) rfl rfl ?_
            rw [nmb_len] at v7
            exact kk S6 f6 c6 e6 o6 I6 A7 (Fr_cons (Fr_u (Fr_u (Fr_u (Fr_refl _ _) (by decide)) (by decide)) (by decide)) x6 (by decide)) (Fr_cons (Fr_cons (Fr_refl _ _) y6 (by decide)) y7 (by decide)) (kD_on h6 o6 (Fr_refl [] I6) y7 (by decide) (by decide)) ((x6 31 (by decide)).trans rfl) n6 d6 (fun j hj => by rw [y7 38 (by decide)]; exact s6 j hj) (by rw [u7, y6 39 (by decide)]) (by rw [v7, y6 40 (by decide)]) (by rw [w7, y6 41 (by decide)])
          · omega
  · exact absurd c12 (nI_m1 (by omega))
set_option maxRecDepth 100000 in
set_option maxHeartbeats 4000000 in
theorem k_58a_53_2 {S : DS} {mq0 : Nat} {q : Int32} {l : List R5} (hD : kD mq0 S I A) (ho : dO S = false) (hC : BC 2 I A l) (hl1 : 1 ≤ l.length) (hl4 : l.length ≤ 4) {cn N : Nat} {f : Nat → Nat} (hcn : cn ≤ 16) (hc : I 46 = nI cn) (hf : ∀ k, k < cn → f k < 16) (hsl : ∀ j, j < cn → A 38 j = nI (f j)) (hN : I 48 = nI N) (hNb : N + 4 < 2 ^ 31) (hroom : frS (dD S) 16 0 = -1 ∨ cn < 16) (hn : 77 ≤ n ∧ n < 10000) (hu : u + 6 < 1000000) {Q : mO × mHp → Prop} (kk : ∀ S' f' cn', apS S 2 f cn N (nI 255) (nI 0) (nmb N l) = some (S', f', cn') → dO S' = false → ∀ I' A', Fr [2, 3, 14, 15, 46, 48, 26, 27, 31] I I' → Fr [0, 3, 4, 38, 20] A A' → kD 60 S' I' A' → I' 31 = nI 0 → I' 48 = nI (N + l.length) → I' 46 = nI cn' → (∀ j, j < cn' → A' 38 j = nI (f' j)) → Q (.inl (some (.int (nI N))), hS n u I' A' J B 60 53 L xs X)) (kx : ∀ S' f' cn', apS S 2 f cn N (nI 255) (nI 0) (nmb N l) = some (S', f', cn') → dO S' = true → ∀ I' A', Up 60 I I' → Up 50 A A' → kD 60 S' I' A' → Q (.inr n, hS (n + 1) (u + 6) I' A' J B 60 53 L xs (va_up X n (.inr (9, []))))) (kr : apS S 2 f cn N (nI 255) (nI 0) (nmb N l) = none → ∀ I' A', Fr [14, 26, 27, 31] I I' → Fr [3, 20] A A' → I' 31 = nI 0 → Q (.inr n, hS (n + 1) (u + 6) I' A' J B 60 53 L xs (va_up X n (.inr (11, []))))) : mq 58 0 [some (.ref 1), some (.int (nI 2)), some (.int (-1)), some (.int q), none, none, none, none] [] (hS n u I A J B 53 60 L xs X) Q := by
  refine x_al1 (pc := 0) rfl rfl ?_
  refine x_k (pc := 1) rfl rfl rfl ⟨Nat.le_of_ble_eq_true rfl, Nat.le_of_ble_eq_true rfl, Nat.le_of_ble_eq_true rfl⟩ rfl (k_59_53 (I := I) (A := A) ?_)
  show mq 58 4 [some (.ref 1), some (.int (nI 2)), some (.int (-1)), some (.int q), none, none, none, none] [.ref 53] (hS n u (va_up I 31 (nI 0)) A J B 60 53 L xs X) _
  refine x_as2 (pc := 4) (ml' := [some (.ref 1), some (.int (nI 2)), some (.int (-1)), some (.int q), some (.ref 53), none, none, none]) rfl rfl ?_
  refine x_al1 (pc := 6) rfl rfl ?_
  refine x_k (pc := 7) rfl rfl rfl ⟨Nat.le_of_ble_eq_true rfl, Nat.le_of_ble_eq_true rfl, Nat.le_of_ble_eq_true rfl⟩ rfl (k_60 (I := va_up I 31 (nI 0)) ((show (va_up I 31 (nI 0)) 0 = I 0 from rfl).trans (kD_1 hD ho)) ?_)
  show mq 58 10 [some (.ref 1), some (.int (nI 2)), some (.int (-1)), some (.int q), some (.ref 53), none, none, none] [] (hS n u (va_up I 31 (nI 0)) A J B 60 53 L xs X) _
  refine x_il1 (pc := 10) rfl rfl ?_
  refine x_const (pc := 11) (pc' := 12) (.int (-1)) rfl rfl rfl rfl ?_
  refine x_cmp_ne (pc := 12) (t := 19) rfl rfl rfl (fun c12 => ?_) (fun c12 => ?_)
  · exact absurd rfl c12
  · refine x_const (pc := 15) (pc' := 16) (.int (nI 1)) rfl rfl rfl rfl ?_
    refine x_step (pc := 16) (pc' := 20) rfl rfl rfl rfl ?_
    refine x_is2 (pc := 20) (ml' := [some (.ref 1), some (.int (nI 2)), some (.int (-1)), some (.int q), some (.ref 53), some (.int (nI 1)), none, none]) rfl rfl ?_
    refine x_il1 (pc := 22) rfl rfl ?_
    refine x_ifN_lt (pc := 23) (t := 62) rfl rfl (by omega) ?_
    refine x_il1 (pc := 26) rfl rfl ?_
    refine x_const (pc := 27) (pc' := 28) (.int (nI 3)) rfl rfl rfl rfl ?_
    refine x_cmpN_ge (pc := 28) (t := 62) rfl rfl (by decide) (by decide) (fun c => absurd c (by decide)) (fun _ => ?_)
    refine x_il1 (pc := 31) rfl rfl ?_
    refine x_const (pc := 32) (pc' := 33) (.int (-1)) rfl rfl rfl rfl ?_
    refine x_cmp_lt (pc := 33) (t := 62) rfl rfl rfl (fun c33 => ?_) (fun c33 => ?_)
    · exact absurd c33 (by decide)
    · refine x_il1 (pc := 36) rfl rfl ?_
      refine x_const (pc := 37) (pc' := 39) (.int (nI 8)) rfl rfl rfl rfl ?_
      refine x_cmp_ge (pc := 39) (t := 62) rfl rfl rfl (fun c39 => ?_) (fun c39 => ?_)
      · exact absurd c39 (by decide)
      · refine x_il2 (pc := 42) rfl rfl ?_
        refine x_ifN_ne (pc := 44) (t := 51) rfl rfl (by decide) (fun _ => ?_) (fun c => absurd c (by decide))
        refine x_al2 (pc := 51) rfl rfl ?_
        refine g_53_0 (pc := 53) rfl rfl ?_
        refine g_54_5 (pc := 56) (v := nI l.length) rfl rfl hC.1 ?_
        refine x_ifN_ne (pc := 59) (t := 72) rfl rfl (by omega) (fun c59 => ?_) (fun c59 => ?_)
        · refine x_al2 (pc := 72) rfl rfl ?_
          refine x_il2 (pc := 74) rfl rfl ?_
          refine x_ifN_eq (pc := 76) (t := 85) rfl rfl (by decide) (fun c => absurd c (by decide)) (fun _ => ?_)
          refine x_const (pc := 79) (pc' := 82) (.int (nI 255)) rfl rfl rfl rfl ?_
          refine x_step (pc := 82) (pc' := 86) rfl rfl rfl rfl ?_
          refine x_il2 (pc := 86) rfl rfl ?_
          refine x_ifN_eq (pc := 88) (t := 95) rfl rfl (by decide) (fun c => absurd c (by decide)) (fun _ => ?_)
          refine x_const (pc := 91) (pc' := 92) (.int (nI 0)) rfl rfl rfl rfl ?_
          refine x_step (pc := 92) (pc' := 96) rfl rfl rfl rfl ?_
          refine x_k (pc := 96) rfl rfl rfl ⟨Nat.le_of_ble_eq_true rfl, Nat.le_of_ble_eq_true rfl, Nat.le_of_ble_eq_true rfl⟩ rfl (mq_k (c_43_2 (I := va_up I 31 (nI 0)) (A := A) _ _) ?_)
          show mq 58 99 [some (.ref 1), some (.int (nI 2)), some (.int (-1)), some (.int q), some (.ref 53), some (.int (nI 1)), none, none] [] (hS n u (va_up (va_up (va_up I 31 (nI 0)) 26 (nI 255)) 27 (nI 0)) A J B 60 53 L xs X) _
          refine x_al1 (pc := 99) rfl rfl ?_
          refine g_1_2 (pc := 100) rfl rfl ?_
          refine x_il1 (pc := 103) rfl rfl ?_
          refine aal (pc := 104) (q := 2) (a := 23) rfl rfl (by decide) rfl ?_
          refine x_al2 (pc := 105) rfl rfl ?_
          refine x_k (pc := 107) rfl rfl rfl ⟨Nat.le_of_ble_eq_true rfl, Nat.le_of_ble_eq_true rfl, Nat.le_of_ble_eq_true rfl⟩ rfl (k_61n_2_53 (I := va_up (va_up (va_up I 31 (nI 0)) 26 (nI 255)) 27 (nI 0)) (A := A) rfl ?_)
          show mq 58 110 [some (.ref 1), some (.int (nI 2)), some (.int (-1)), some (.int q), some (.ref 53), some (.int (nI 1)), none, none] [.int (-1)] (hS n u (va_up (va_up (va_up I 31 (nI 0)) 26 (nI 255)) 27 (nI 0)) A J B 60 53 L xs X) _
          refine x_is2 (pc := 110) (ml' := [some (.ref 1), some (.int (nI 2)), some (.int (-1)), some (.int q), some (.ref 53), some (.int (nI 1)), some (.int (-1)), none]) rfl rfl ?_
          refine x_il2 (pc := 112) rfl rfl ?_
          refine x_if_lt (pc := 114) (t := 120) rfl rfl rfl (fun _ => ?_) (fun c => absurd (by decide) c)
          refine x_al1 (pc := 120) rfl rfl ?_
          refine x_al1 (pc := 121) rfl rfl ?_
          refine g_1_2 (pc := 122) rfl rfl ?_
          refine x_il1 (pc := 125) rfl rfl ?_
          refine aal (pc := 126) (q := 2) (a := 23) rfl rfl (by decide) rfl ?_
          refine x_al2 (pc := 127) rfl rfl ?_
          refine x_k (pc := 129) rfl rfl rfl ⟨Nat.le_of_ble_eq_true rfl, Nat.le_of_ble_eq_true rfl, Nat.le_of_ble_eq_true rfl⟩ rfl (k_62n_2_53 (I := va_up (va_up (va_up I 31 (nI 0)) 26 (nI 255)) 27 (nI 0)) (A := A) rfl ?_)
          show mq 58 132 [some (.ref 1), some (.int (nI 2)), some (.int (-1)), some (.int q), some (.ref 53), some (.int (nI 1)), some (.int (-1)), none] [] (hS n u (va_up (va_up (va_up I 31 (nI 0)) 26 (nI 255)) 27 (nI 0)) A J B 60 53 L xs X) _
          refine x_al1 (pc := 132) rfl rfl ?_
          refine x_al1 (pc := 133) rfl rfl ?_
          refine g_1_2 (pc := 134) rfl rfl ?_
          refine x_il1 (pc := 137) rfl rfl ?_
          refine aal (pc := 138) (q := 2) (a := 23) rfl rfl (by decide) rfl ?_
          refine x_al2 (pc := 139) rfl rfl ?_
          refine x_k (pc := 141) rfl rfl rfl ⟨Nat.le_of_ble_eq_true rfl, Nat.le_of_ble_eq_true rfl, Nat.le_of_ble_eq_true rfl⟩ rfl (k_63_2_2 (mk := 60) (sn := 53) (I := va_up (va_up (va_up I 31 (nI 0)) 26 (nI 255)) 27 (nI 0)) (A := A) (S := S) (f := f) (N := N) (l := l) (p := nI 255) (q := nI 0) (kD_on (kD_mk hD ho) ho (show Fr [26, 27, 31] I (va_up (va_up (va_up I 31 (nI 0)) 26 (nI 255)) 27 (nI 0)) from (Fr_u (Fr_u (Fr_u (Fr_refl _ I) (by decide)) (by decide)) (by decide))) (Fr_refl [] A) (by decide) (by decide)) ho (Or.inr ⟨rfl, rfl⟩) hn hu hcn hc hf hsl hN hNb ⟨rfl, rfl, hC.1, hC.2⟩ hl1 hl4 hroom (fun S6 f6 c6 e6 o6 I6 A6 x6 y6 h6 n6 b6 d6 s6 => ?_) (fun S6 f6 c6 e6 o6 I6 A6 x6 y6 h6 => mK_x rfl (kx S6 f6 c6 e6 o6 I6 A6 (Up_tr (Up_fr (show Fr [26, 27, 31] I (va_up (va_up (va_up I 31 (nI 0)) 26 (nI 255)) 27 (nI 0)) from (Fr_u (Fr_u (Fr_u (Fr_refl _ I) (by decide)) (by decide)) (by decide))) (by decide)) x6) y6 h6)) (fun e6 I6 A6 x6 y6 => mK_x rfl (kr e6 I6 A6 (Fr_cons (Fr_u (Fr_u (Fr_u (Fr_refl _ I) (by decide)) (by decide)) (by decide)) x6 (by decide)) y6 ((x6 31 (by decide)).trans rfl))))
          show mq 58 144 [some (.ref 1), some (.int (nI 2)), some (.int (-1)), some (.int q), some (.ref 53), some (.int (nI 1)), some (.int (-1)), none] [.int (nI N)] (hS n u I6 A6 J B 60 53 L xs X) _
          refine x_is2 (pc := 144) (ml' := [some (.ref 1), some (.int (nI 2)), some (.int (-1)), some (.int q), some (.ref 53), some (.int (nI 1)), some (.int (-1)), some (.int (nI N))]) rfl rfl ?_
          refine x_al1 (pc := 146) rfl rfl ?_
          refine g_1_2 (pc := 147) rfl rfl ?_
          refine x_il1 (pc := 150) rfl rfl ?_
          refine aal (pc := 151) (q := 2) (a := 23) rfl rfl (by decide) rfl ?_
          refine x_al2 (pc := 152) rfl rfl ?_
          refine x_il2 (pc := 154) rfl rfl ?_
          refine x_k (pc := 156) rfl rfl rfl ⟨Nat.le_of_ble_eq_true rfl, Nat.le_of_ble_eq_true rfl, Nat.le_of_ble_eq_true rfl⟩ rfl (k_46n_2_2 (I := I6) (A := A6) (p := 255) (o := nI N) b6.1 (by decide) ?_)
          show mq 58 159 [some (.ref 1), some (.int (nI 2)), some (.int (-1)), some (.int q), some (.ref 53), some (.int (nI 1)), some (.int (-1)), some (.int (nI N))] [] (hS n u I6 A6 J B 60 53 L xs X) _
          refine x_il2 (pc := 159) rfl rfl ?_
          refine x_ret (pc := 161) rfl rfl ?_
          exact kk S6 f6 c6 e6 o6 I6 A6 (Fr_cons (Fr_u (Fr_u (Fr_u (Fr_refl _ _) (by decide)) (by decide)) (by decide)) x6 (by decide)) (Fr_cons (Fr_refl _ _) y6 (by decide)) h6 ((x6 31 (by decide)).trans rfl) n6 d6 s6
        · omega
set_option maxRecDepth 100000 in
set_option maxHeartbeats 4000000 in
theorem k_58x_60 (h0 : I 0 = nI 0) {a p q : Int32} (hn : 77 ≤ n ∧ n < 10000) (hu : u + 6 < 1000000) {Q : mO × mHp → Prop} (kk : Q (.inr n, hS (n + 1) (u + 6) (va_up I 28 (nI 0)) A J B 53 60 L xs (va_up X n (.inr (9, []))))) : mq 58 0 [some (.ref 1), some (.int a), some (.int p), some (.int q), none, none, none, none] [] (hS n u I A J B 60 53 L xs X) Q := by
  refine x_al1 (pc := 0) rfl rfl ?_
  refine x_k (pc := 1) rfl rfl rfl ⟨Nat.le_of_ble_eq_true rfl, Nat.le_of_ble_eq_true rfl, Nat.le_of_ble_eq_true rfl⟩ rfl (k_59_60 (I := I) (A := A) ?_)
  show mq 58 4 [some (.ref 1), some (.int a), some (.int p), some (.int q), none, none, none, none] [.ref 60] (hS n u (va_up I 28 (nI 0)) A J B 53 60 L xs X) _
  refine x_as2 (pc := 4) (ml' := [some (.ref 1), some (.int a), some (.int p), some (.int q), some (.ref 60), none, none, none]) rfl rfl ?_
  refine x_al1 (pc := 6) rfl rfl ?_
  refine x_k (pc := 7) rfl rfl rfl ⟨Nat.le_of_ble_eq_true rfl, Nat.le_of_ble_eq_true rfl, Nat.le_of_ble_eq_true rfl⟩ rfl (k_60x (I := va_up I 28 (nI 0)) ((show (va_up I 28 (nI 0)) 0 = I 0 from rfl).trans h0) hn hu (mK_x rfl kk))
set_option maxRecDepth 100000 in
set_option maxHeartbeats 4000000 in
theorem k_58b_60 {S : DS} {mq0 c : Nat} (hD : kD mq0 S I A) (ho : dO S = false) {a p q : Int32} (hc : I 31 = nI c) (hc4 : c ≤ 4) (hx : (a < 0 ∨ nI 3 ≤ a) ∨ (p < -1 ∨ nI 8 ≤ p) ∨ (¬ p = -1 ∧ q < 0) ∨ c = 0) (hn : 77 ≤ n ∧ n < 10000) (hu : u + 6 < 1000000) {Q : mO × mHp → Prop} (kk : Q (.inr n, hS (n + 1) (u + 6) (va_up I 28 (nI 0)) A J B 53 60 L xs (va_up X n (.inr (10, []))))) : mq 58 0 [some (.ref 1), some (.int a), some (.int p), some (.int q), none, none, none, none] [] (hS n u I A J B 60 53 L xs X) Q := by
  refine x_al1 (pc := 0) rfl rfl ?_
  refine x_k (pc := 1) rfl rfl rfl ⟨Nat.le_of_ble_eq_true rfl, Nat.le_of_ble_eq_true rfl, Nat.le_of_ble_eq_true rfl⟩ rfl (k_59_60 (I := I) (A := A) ?_)
  show mq 58 4 [some (.ref 1), some (.int a), some (.int p), some (.int q), none, none, none, none] [.ref 60] (hS n u (va_up I 28 (nI 0)) A J B 53 60 L xs X) _
  refine x_as2 (pc := 4) (ml' := [some (.ref 1), some (.int a), some (.int p), some (.int q), some (.ref 60), none, none, none]) rfl rfl ?_
  refine x_al1 (pc := 6) rfl rfl ?_
  refine x_k (pc := 7) rfl rfl rfl ⟨Nat.le_of_ble_eq_true rfl, Nat.le_of_ble_eq_true rfl, Nat.le_of_ble_eq_true rfl⟩ rfl (k_60 (I := va_up I 28 (nI 0)) ((show (va_up I 28 (nI 0)) 0 = I 0 from rfl).trans (kD_1 hD ho)) ?_)
  show mq 58 10 [some (.ref 1), some (.int a), some (.int p), some (.int q), some (.ref 60), none, none, none] [] (hS n u (va_up I 28 (nI 0)) A J B 53 60 L xs X) _
  refine x_il1 (pc := 10) rfl rfl ?_
  refine x_const (pc := 11) (pc' := 12) (.int (-1)) rfl rfl rfl rfl ?_
  refine x_cmp_ne (pc := 12) (t := 19) rfl rfl rfl (fun c12 => ?_) (fun c12 => ?_)
  · refine x_const (pc := 19) (pc' := 20) (.int (nI 0)) rfl rfl rfl rfl ?_
    refine x_is2 (pc := 20) (ml' := [some (.ref 1), some (.int a), some (.int p), some (.int q), some (.ref 60), some (.int (nI 0)), none, none]) rfl rfl ?_
    refine x_il1 (pc := 22) rfl rfl ?_
    refine x_if_lt (pc := 23) (t := 62) rfl rfl rfl (fun c23 => ?_) (fun c23 => ?_)
    · refine x_thr (pc := 62) rfl rfl hn hu rfl ⟨Nat.le_of_ble_eq_true rfl, Nat.le_of_ble_eq_true rfl⟩ ?_
      exact kk
    · refine x_il1 (pc := 26) rfl rfl ?_
      refine x_const (pc := 27) (pc' := 28) (.int (nI 3)) rfl rfl rfl rfl ?_
      refine x_cmp_ge (pc := 28) (t := 62) rfl rfl rfl (fun c28 => ?_) (fun c28 => ?_)
      · refine x_thr (pc := 62) rfl rfl hn hu rfl ⟨Nat.le_of_ble_eq_true rfl, Nat.le_of_ble_eq_true rfl⟩ ?_
        exact kk
      · refine x_il1 (pc := 31) rfl rfl ?_
        refine x_const (pc := 32) (pc' := 33) (.int (-1)) rfl rfl rfl rfl ?_
        refine x_cmp_lt (pc := 33) (t := 62) rfl rfl rfl (fun c33 => ?_) (fun c33 => ?_)
        · refine x_thr (pc := 62) rfl rfl hn hu rfl ⟨Nat.le_of_ble_eq_true rfl, Nat.le_of_ble_eq_true rfl⟩ ?_
          exact kk
        · refine x_il1 (pc := 36) rfl rfl ?_
          refine x_const (pc := 37) (pc' := 39) (.int (nI 8)) rfl rfl rfl rfl ?_
          refine x_cmp_ge (pc := 39) (t := 62) rfl rfl rfl (fun c39 => ?_) (fun c39 => ?_)
          · refine x_thr (pc := 62) rfl rfl hn hu rfl ⟨Nat.le_of_ble_eq_true rfl, Nat.le_of_ble_eq_true rfl⟩ ?_
            exact kk
          · refine x_il2 (pc := 42) rfl rfl ?_
            refine x_ifN_ne (pc := 44) (t := 51) rfl rfl (by decide) (fun c => absurd c (by decide)) (fun _ => ?_)
            refine x_il1 (pc := 47) rfl rfl ?_
            refine x_if_lt (pc := 48) (t := 62) rfl rfl rfl (fun c48 => ?_) (fun c48 => ?_)
            · refine x_thr (pc := 62) rfl rfl hn hu rfl ⟨Nat.le_of_ble_eq_true rfl, Nat.le_of_ble_eq_true rfl⟩ ?_
              exact kk
            · refine x_al2 (pc := 51) rfl rfl ?_
              refine g_60_0 (pc := 53) rfl rfl ?_
              refine g_61_5 (pc := 56) (v := nI c) rfl rfl hc ?_
              refine x_ifN_ne (pc := 59) (t := 72) rfl rfl (by omega) (fun c59 => ?_) (fun c59 => ?_)
              · rcases hx with (h | h) | (h | h) | h | h
                all_goals first | exact absurd h c23 | exact absurd h c28 | exact absurd h c33 | exact absurd h c39 | exact absurd h c59 | exact absurd h.2 c48 | exact absurd c12 h.1
              · refine x_thr (pc := 62) rfl rfl hn hu rfl ⟨Nat.le_of_ble_eq_true rfl, Nat.le_of_ble_eq_true rfl⟩ ?_
                exact kk
  · refine x_const (pc := 15) (pc' := 16) (.int (nI 1)) rfl rfl rfl rfl ?_
    refine x_step (pc := 16) (pc' := 20) rfl rfl rfl rfl ?_
    refine x_is2 (pc := 20) (ml' := [some (.ref 1), some (.int a), some (.int p), some (.int q), some (.ref 60), some (.int (nI 1)), none, none]) rfl rfl ?_
    refine x_il1 (pc := 22) rfl rfl ?_
    refine x_if_lt (pc := 23) (t := 62) rfl rfl rfl (fun c23 => ?_) (fun c23 => ?_)
    · refine x_thr (pc := 62) rfl rfl hn hu rfl ⟨Nat.le_of_ble_eq_true rfl, Nat.le_of_ble_eq_true rfl⟩ ?_
      exact kk
    · refine x_il1 (pc := 26) rfl rfl ?_
      refine x_const (pc := 27) (pc' := 28) (.int (nI 3)) rfl rfl rfl rfl ?_
      refine x_cmp_ge (pc := 28) (t := 62) rfl rfl rfl (fun c28 => ?_) (fun c28 => ?_)
      · refine x_thr (pc := 62) rfl rfl hn hu rfl ⟨Nat.le_of_ble_eq_true rfl, Nat.le_of_ble_eq_true rfl⟩ ?_
        exact kk
      · refine x_il1 (pc := 31) rfl rfl ?_
        refine x_const (pc := 32) (pc' := 33) (.int (-1)) rfl rfl rfl rfl ?_
        refine x_cmp_lt (pc := 33) (t := 62) rfl rfl rfl (fun c33 => ?_) (fun c33 => ?_)
        · refine x_thr (pc := 62) rfl rfl hn hu rfl ⟨Nat.le_of_ble_eq_true rfl, Nat.le_of_ble_eq_true rfl⟩ ?_
          exact kk
        · refine x_il1 (pc := 36) rfl rfl ?_
          refine x_const (pc := 37) (pc' := 39) (.int (nI 8)) rfl rfl rfl rfl ?_
          refine x_cmp_ge (pc := 39) (t := 62) rfl rfl rfl (fun c39 => ?_) (fun c39 => ?_)
          · refine x_thr (pc := 62) rfl rfl hn hu rfl ⟨Nat.le_of_ble_eq_true rfl, Nat.le_of_ble_eq_true rfl⟩ ?_
            exact kk
          · refine x_il2 (pc := 42) rfl rfl ?_
            refine x_ifN_ne (pc := 44) (t := 51) rfl rfl (by decide) (fun _ => ?_) (fun c => absurd c (by decide))
            refine x_al2 (pc := 51) rfl rfl ?_
            refine g_60_0 (pc := 53) rfl rfl ?_
            refine g_61_5 (pc := 56) (v := nI c) rfl rfl hc ?_
            refine x_ifN_ne (pc := 59) (t := 72) rfl rfl (by omega) (fun c59 => ?_) (fun c59 => ?_)
            · rcases hx with (h | h) | (h | h) | h | h
              all_goals first | exact absurd h c23 | exact absurd h c28 | exact absurd h c33 | exact absurd h c39 | exact absurd h c59 | exact absurd h.2 c48 | exact absurd c12 h.1
            · refine x_thr (pc := 62) rfl rfl hn hu rfl ⟨Nat.le_of_ble_eq_true rfl, Nat.le_of_ble_eq_true rfl⟩ ?_
              exact kk
set_option maxRecDepth 100000 in
set_option maxHeartbeats 4000000 in
theorem k_58s_60_0 {S : DS} {mq0 p m : Nat} {q : Int32} {l : List R5} (hD : kD mq0 S I A) (ho : dO S = false) (hC : BC 3 I A l) (hl1 : 1 ≤ l.length) (hl4 : l.length ≤ 4) (hp8 : p < 8) (hq0 : ¬ q < 0) (hm : A 32 p = nI m) (hm5 : m < 5) (hs1 : ¬ m = 0) (hs2 : A 31 p = q) (hs3 : m = l.length) {o : Nat} (ho9 : A 33 p = nI o) (ho31 : o < 2 ^ 31) {Q : mO × mHp → Prop} (kk : Q (.inl (some (.int (A 33 p))), hS n u (va_up (va_up (va_up I 28 (nI 0)) 29 (nI p)) 30 q) A J B 53 60 L xs X)) : mq 58 0 [some (.ref 1), some (.int (nI 0)), some (.int (nI p)), some (.int q), none, none, none, none] [] (hS n u I A J B 60 53 L xs X) Q := by
  refine x_al1 (pc := 0) rfl rfl ?_
  refine x_k (pc := 1) rfl rfl rfl ⟨Nat.le_of_ble_eq_true rfl, Nat.le_of_ble_eq_true rfl, Nat.le_of_ble_eq_true rfl⟩ rfl (k_59_60 (I := I) (A := A) ?_)
  show mq 58 4 [some (.ref 1), some (.int (nI 0)), some (.int (nI p)), some (.int q), none, none, none, none] [.ref 60] (hS n u (va_up I 28 (nI 0)) A J B 53 60 L xs X) _
  refine x_as2 (pc := 4) (ml' := [some (.ref 1), some (.int (nI 0)), some (.int (nI p)), some (.int q), some (.ref 60), none, none, none]) rfl rfl ?_
  refine x_al1 (pc := 6) rfl rfl ?_
  refine x_k (pc := 7) rfl rfl rfl ⟨Nat.le_of_ble_eq_true rfl, Nat.le_of_ble_eq_true rfl, Nat.le_of_ble_eq_true rfl⟩ rfl (k_60 (I := va_up I 28 (nI 0)) ((show (va_up I 28 (nI 0)) 0 = I 0 from rfl).trans (kD_1 hD ho)) ?_)
  show mq 58 10 [some (.ref 1), some (.int (nI 0)), some (.int (nI p)), some (.int q), some (.ref 60), none, none, none] [] (hS n u (va_up I 28 (nI 0)) A J B 53 60 L xs X) _
  refine x_il1 (pc := 10) rfl rfl ?_
  refine x_const (pc := 11) (pc' := 12) (.int (-1)) rfl rfl rfl rfl ?_
  refine x_cmp_ne (pc := 12) (t := 19) rfl rfl rfl (fun c12 => ?_) (fun c12 => ?_)
  · refine x_const (pc := 19) (pc' := 20) (.int (nI 0)) rfl rfl rfl rfl ?_
    refine x_is2 (pc := 20) (ml' := [some (.ref 1), some (.int (nI 0)), some (.int (nI p)), some (.int q), some (.ref 60), some (.int (nI 0)), none, none]) rfl rfl ?_
    refine x_il1 (pc := 22) rfl rfl ?_
    refine x_ifN_lt (pc := 23) (t := 62) rfl rfl (by omega) ?_
    refine x_il1 (pc := 26) rfl rfl ?_
    refine x_const (pc := 27) (pc' := 28) (.int (nI 3)) rfl rfl rfl rfl ?_
    refine x_cmpN_ge (pc := 28) (t := 62) rfl rfl (by decide) (by decide) (fun c => absurd c (by decide)) (fun _ => ?_)
    refine x_il1 (pc := 31) rfl rfl ?_
    refine x_const (pc := 32) (pc' := 33) (.int (-1)) rfl rfl rfl rfl ?_
    refine x_cmp_lt (pc := 33) (t := 62) rfl rfl rfl (fun c33 => ?_) (fun c33 => ?_)
    · exact absurd c33 (nI_m1lt hp8)
    · refine x_il1 (pc := 36) rfl rfl ?_
      refine x_const (pc := 37) (pc' := 39) (.int (nI 8)) rfl rfl rfl rfl ?_
      refine x_cmpN_ge (pc := 39) (t := 62) rfl rfl (by omega) (by omega) (fun c39 => ?_) (fun c39 => ?_)
      · omega
      · refine x_il2 (pc := 42) rfl rfl ?_
        refine x_ifN_ne (pc := 44) (t := 51) rfl rfl (by decide) (fun c => absurd c (by decide)) (fun _ => ?_)
        refine x_il1 (pc := 47) rfl rfl ?_
        refine x_if_lt (pc := 48) (t := 62) rfl rfl rfl (fun c48 => ?_) (fun c48 => ?_)
        · exact absurd c48 hq0
        · refine x_al2 (pc := 51) rfl rfl ?_
          refine g_60_0 (pc := 53) rfl rfl ?_
          refine g_61_5 (pc := 56) (v := nI l.length) rfl rfl hC.1 ?_
          refine x_ifN_ne (pc := 59) (t := 72) rfl rfl (by omega) (fun c59 => ?_) (fun c59 => ?_)
          · refine x_al2 (pc := 72) rfl rfl ?_
            refine x_il2 (pc := 74) rfl rfl ?_
            refine x_ifN_eq (pc := 76) (t := 85) rfl rfl (by decide) (fun _ => ?_) (fun c => absurd c (by decide))
            refine x_il1 (pc := 85) rfl rfl ?_
            refine x_il2 (pc := 86) rfl rfl ?_
            refine x_ifN_eq (pc := 88) (t := 95) rfl rfl (by decide) (fun _ => ?_) (fun c => absurd c (by decide))
            refine x_il1 (pc := 95) rfl rfl ?_
            refine x_k (pc := 96) rfl rfl rfl ⟨Nat.le_of_ble_eq_true rfl, Nat.le_of_ble_eq_true rfl, Nat.le_of_ble_eq_true rfl⟩ rfl (mq_k (c_43_3 (I := va_up I 28 (nI 0)) (A := A) _ _) ?_)
            show mq 58 99 [some (.ref 1), some (.int (nI 0)), some (.int (nI p)), some (.int q), some (.ref 60), some (.int (nI 0)), none, none] [] (hS n u (va_up (va_up (va_up I 28 (nI 0)) 29 (nI p)) 30 q) A J B 53 60 L xs X) _
            refine x_al1 (pc := 99) rfl rfl ?_
            refine g_1_2 (pc := 100) rfl rfl ?_
            refine x_il1 (pc := 103) rfl rfl ?_
            refine aal (pc := 104) (q := 0) (a := 13) rfl rfl (by decide) rfl ?_
            refine x_al2 (pc := 105) rfl rfl ?_
            refine x_k (pc := 107) rfl rfl rfl ⟨Nat.le_of_ble_eq_true rfl, Nat.le_of_ble_eq_true rfl, Nat.le_of_ble_eq_true rfl⟩ rfl (k_61s_0_60 (I := va_up (va_up (va_up I 28 (nI 0)) 29 (nI p)) 30 q) (A := A) (p := p) (q := q) rfl hp8 rfl hC.1 hl4 hm hm5 hs1 hs2 hs3 ?_)
            show mq 58 110 [some (.ref 1), some (.int (nI 0)), some (.int (nI p)), some (.int q), some (.ref 60), some (.int (nI 0)), none, none] [.int (A 33 p)] (hS n u (va_up (va_up (va_up I 28 (nI 0)) 29 (nI p)) 30 q) A J B 53 60 L xs X) _
            refine x_top (y := nI o) (ho9) ?_
            refine x_is2 (pc := 110) (ml' := [some (.ref 1), some (.int (nI 0)), some (.int (nI p)), some (.int q), some (.ref 60), some (.int (nI 0)), some (.int (nI o)), none]) rfl rfl ?_
            refine x_il2 (pc := 112) rfl rfl ?_
            refine x_ifN_lt (pc := 114) (t := 120) rfl rfl (by omega) ?_
            refine x_il2 (pc := 117) rfl rfl ?_
            refine x_ret (pc := 119) rfl rfl ?_
            rw [← ho9]
            exact kk
          · omega
  · exact absurd c12 (nI_m1 (by omega))
set_option maxRecDepth 100000 in
set_option maxHeartbeats 4000000 in
theorem k_58o_60_0 {S : DS} {mq0 p m : Nat} {q : Int32} {l : List R5} (hD : kD mq0 S I A) (ho : dO S = false) (hC : BC 3 I A l) (hl1 : 1 ≤ l.length) (hl4 : l.length ≤ 4) (hp8 : p < 8) (hq0 : ¬ q < 0) (hm : A 32 p = nI m) (hm5 : m < 5) (hns : ¬ (¬ m = 0 ∧ A 31 p = q ∧ m = l.length)) (hm0 : ¬ m = 0) (hor : ¬ A 31 p + nI m = q) (hn : 77 ≤ n ∧ n < 10000) (hu : u + 6 < 1000000) {Q : mO × mHp → Prop} (kk : Q (.inr n, hS (n + 1) (u + 6) (va_up (va_up (va_up I 28 (nI 0)) 29 (nI p)) 30 q) A J B 53 60 L xs (va_up X n (.inr (11, []))))) : mq 58 0 [some (.ref 1), some (.int (nI 0)), some (.int (nI p)), some (.int q), none, none, none, none] [] (hS n u I A J B 60 53 L xs X) Q := by
  refine x_al1 (pc := 0) rfl rfl ?_
  refine x_k (pc := 1) rfl rfl rfl ⟨Nat.le_of_ble_eq_true rfl, Nat.le_of_ble_eq_true rfl, Nat.le_of_ble_eq_true rfl⟩ rfl (k_59_60 (I := I) (A := A) ?_)
  show mq 58 4 [some (.ref 1), some (.int (nI 0)), some (.int (nI p)), some (.int q), none, none, none, none] [.ref 60] (hS n u (va_up I 28 (nI 0)) A J B 53 60 L xs X) _
  refine x_as2 (pc := 4) (ml' := [some (.ref 1), some (.int (nI 0)), some (.int (nI p)), some (.int q), some (.ref 60), none, none, none]) rfl rfl ?_
  refine x_al1 (pc := 6) rfl rfl ?_
  refine x_k (pc := 7) rfl rfl rfl ⟨Nat.le_of_ble_eq_true rfl, Nat.le_of_ble_eq_true rfl, Nat.le_of_ble_eq_true rfl⟩ rfl (k_60 (I := va_up I 28 (nI 0)) ((show (va_up I 28 (nI 0)) 0 = I 0 from rfl).trans (kD_1 hD ho)) ?_)
  show mq 58 10 [some (.ref 1), some (.int (nI 0)), some (.int (nI p)), some (.int q), some (.ref 60), none, none, none] [] (hS n u (va_up I 28 (nI 0)) A J B 53 60 L xs X) _
  refine x_il1 (pc := 10) rfl rfl ?_
  refine x_const (pc := 11) (pc' := 12) (.int (-1)) rfl rfl rfl rfl ?_
  refine x_cmp_ne (pc := 12) (t := 19) rfl rfl rfl (fun c12 => ?_) (fun c12 => ?_)
  · refine x_const (pc := 19) (pc' := 20) (.int (nI 0)) rfl rfl rfl rfl ?_
    refine x_is2 (pc := 20) (ml' := [some (.ref 1), some (.int (nI 0)), some (.int (nI p)), some (.int q), some (.ref 60), some (.int (nI 0)), none, none]) rfl rfl ?_
    refine x_il1 (pc := 22) rfl rfl ?_
    refine x_ifN_lt (pc := 23) (t := 62) rfl rfl (by omega) ?_
    refine x_il1 (pc := 26) rfl rfl ?_
    refine x_const (pc := 27) (pc' := 28) (.int (nI 3)) rfl rfl rfl rfl ?_
    refine x_cmpN_ge (pc := 28) (t := 62) rfl rfl (by decide) (by decide) (fun c => absurd c (by decide)) (fun _ => ?_)
    refine x_il1 (pc := 31) rfl rfl ?_
    refine x_const (pc := 32) (pc' := 33) (.int (-1)) rfl rfl rfl rfl ?_
    refine x_cmp_lt (pc := 33) (t := 62) rfl rfl rfl (fun c33 => ?_) (fun c33 => ?_)
    · exact absurd c33 (nI_m1lt hp8)
    · refine x_il1 (pc := 36) rfl rfl ?_
      refine x_const (pc := 37) (pc' := 39) (.int (nI 8)) rfl rfl rfl rfl ?_
      refine x_cmpN_ge (pc := 39) (t := 62) rfl rfl (by omega) (by omega) (fun c39 => ?_) (fun c39 => ?_)
      · omega
      · refine x_il2 (pc := 42) rfl rfl ?_
        refine x_ifN_ne (pc := 44) (t := 51) rfl rfl (by decide) (fun c => absurd c (by decide)) (fun _ => ?_)
        refine x_il1 (pc := 47) rfl rfl ?_
        refine x_if_lt (pc := 48) (t := 62) rfl rfl rfl (fun c48 => ?_) (fun c48 => ?_)
        · exact absurd c48 hq0
        · refine x_al2 (pc := 51) rfl rfl ?_
          refine g_60_0 (pc := 53) rfl rfl ?_
          refine g_61_5 (pc := 56) (v := nI l.length) rfl rfl hC.1 ?_
          refine x_ifN_ne (pc := 59) (t := 72) rfl rfl (by omega) (fun c59 => ?_) (fun c59 => ?_)
          · refine x_al2 (pc := 72) rfl rfl ?_
            refine x_il2 (pc := 74) rfl rfl ?_
            refine x_ifN_eq (pc := 76) (t := 85) rfl rfl (by decide) (fun _ => ?_) (fun c => absurd c (by decide))
            refine x_il1 (pc := 85) rfl rfl ?_
            refine x_il2 (pc := 86) rfl rfl ?_
            refine x_ifN_eq (pc := 88) (t := 95) rfl rfl (by decide) (fun _ => ?_) (fun c => absurd c (by decide))
            refine x_il1 (pc := 95) rfl rfl ?_
            refine x_k (pc := 96) rfl rfl rfl ⟨Nat.le_of_ble_eq_true rfl, Nat.le_of_ble_eq_true rfl, Nat.le_of_ble_eq_true rfl⟩ rfl (mq_k (c_43_3 (I := va_up I 28 (nI 0)) (A := A) _ _) ?_)
            show mq 58 99 [some (.ref 1), some (.int (nI 0)), some (.int (nI p)), some (.int q), some (.ref 60), some (.int (nI 0)), none, none] [] (hS n u (va_up (va_up (va_up I 28 (nI 0)) 29 (nI p)) 30 q) A J B 53 60 L xs X) _
            refine x_al1 (pc := 99) rfl rfl ?_
            refine g_1_2 (pc := 100) rfl rfl ?_
            refine x_il1 (pc := 103) rfl rfl ?_
            refine aal (pc := 104) (q := 0) (a := 13) rfl rfl (by decide) rfl ?_
            refine x_al2 (pc := 105) rfl rfl ?_
            refine x_k (pc := 107) rfl rfl rfl ⟨Nat.le_of_ble_eq_true rfl, Nat.le_of_ble_eq_true rfl, Nat.le_of_ble_eq_true rfl⟩ rfl (k_61d_0_60 (I := va_up (va_up (va_up I 28 (nI 0)) 29 (nI p)) 30 q) (A := A) (p := p) (q := q) rfl hp8 rfl hC.1 hl4 hm hm5 hns ?_)
            show mq 58 110 [some (.ref 1), some (.int (nI 0)), some (.int (nI p)), some (.int q), some (.ref 60), some (.int (nI 0)), none, none] [.int (-1)] (hS n u (va_up (va_up (va_up I 28 (nI 0)) 29 (nI p)) 30 q) A J B 53 60 L xs X) _
            refine x_is2 (pc := 110) (ml' := [some (.ref 1), some (.int (nI 0)), some (.int (nI p)), some (.int q), some (.ref 60), some (.int (nI 0)), some (.int (-1)), none]) rfl rfl ?_
            refine x_il2 (pc := 112) rfl rfl ?_
            refine x_if_lt (pc := 114) (t := 120) rfl rfl rfl (fun _ => ?_) (fun c => absurd (by decide) c)
            refine x_al1 (pc := 120) rfl rfl ?_
            refine x_al1 (pc := 121) rfl rfl ?_
            refine g_1_2 (pc := 122) rfl rfl ?_
            refine x_il1 (pc := 125) rfl rfl ?_
            refine aal (pc := 126) (q := 0) (a := 13) rfl rfl (by decide) rfl ?_
            refine x_al2 (pc := 127) rfl rfl ?_
            refine x_k (pc := 129) rfl rfl rfl ⟨Nat.le_of_ble_eq_true rfl, Nat.le_of_ble_eq_true rfl, Nat.le_of_ble_eq_true rfl⟩ rfl (k_62x_0_60 (I := va_up (va_up (va_up I 28 (nI 0)) 29 (nI p)) 30 q) (A := A) (p := p) (q := q) rfl hp8 rfl hC.1 hl4 hm hm5 hm0 hor hn hu (mK_x rfl kk))
          · omega
  · exact absurd c12 (nI_m1 (by omega))
set_option maxRecDepth 100000 in
set_option maxHeartbeats 4000000 in
theorem k_58p_60_0 {S : DS} {mq0 p m : Nat} {q : Int32} {l : List R5} (hD : kD mq0 S I A) (ho : dO S = false) (hC : BC 3 I A l) (hl1 : 1 ≤ l.length) (hl4 : l.length ≤ 4) (hp8 : p < 8) (hq0 : ¬ q < 0) (hm : A 32 p = nI m) (hm5 : m < 5) (hns : ¬ (¬ m = 0 ∧ A 31 p = q ∧ m = l.length)) (hor : m = 0 ∨ A 31 p + nI m = q) {cn N : Nat} {f : Nat → Nat} (hcn : cn ≤ 16) (hc : I 40 = nI cn) (hf : ∀ k, k < cn → f k < 16) (hsl : ∀ j, j < cn → A 30 j = nI (f j)) (hN : I 42 = nI N) (hNb : N + 4 < 2 ^ 31) (hroom : frS (dD S) 16 0 = -1 ∨ cn < 16) (hn : 77 ≤ n ∧ n < 10000) (hu : u + 6 < 1000000) {Q : mO × mHp → Prop} (kk : ∀ S' f' cn', apS S 0 f cn N (nI p) q (nmb N l) = some (S', f', cn') → dO S' = false → ∀ I' A', Fr [2, 3, 14, 15, 40, 42, 29, 30, 28] I I' → Fr [0, 3, 4, 30, 25, 31, 32, 33] A A' → kD 53 S' I' A' → I' 28 = nI 0 → I' 42 = nI (N + l.length) → I' 40 = nI cn' → (∀ j, j < cn' → A' 30 j = nI (f' j)) → A' 31 = upd (A 31) p q → A' 32 = upd (A 32) p (nI l.length) → A' 33 = upd (A 33) p (nI N) → Q (.inl (some (.int (nI N))), hS n u I' A' J B 53 60 L xs X)) (kx : ∀ S' f' cn', apS S 0 f cn N (nI p) q (nmb N l) = some (S', f', cn') → dO S' = true → ∀ I' A', Up 60 I I' → Up 50 A A' → kD 53 S' I' A' → Q (.inr n, hS (n + 1) (u + 6) I' A' J B 53 60 L xs (va_up X n (.inr (9, []))))) (kr : apS S 0 f cn N (nI p) q (nmb N l) = none → ∀ I' A', Fr [14, 29, 30, 28] I I' → Fr [3, 25] A A' → I' 28 = nI 0 → Q (.inr n, hS (n + 1) (u + 6) I' A' J B 53 60 L xs (va_up X n (.inr (11, []))))) : mq 58 0 [some (.ref 1), some (.int (nI 0)), some (.int (nI p)), some (.int q), none, none, none, none] [] (hS n u I A J B 60 53 L xs X) Q := by
  refine x_al1 (pc := 0) rfl rfl ?_
  refine x_k (pc := 1) rfl rfl rfl ⟨Nat.le_of_ble_eq_true rfl, Nat.le_of_ble_eq_true rfl, Nat.le_of_ble_eq_true rfl⟩ rfl (k_59_60 (I := I) (A := A) ?_)
  show mq 58 4 [some (.ref 1), some (.int (nI 0)), some (.int (nI p)), some (.int q), none, none, none, none] [.ref 60] (hS n u (va_up I 28 (nI 0)) A J B 53 60 L xs X) _
  refine x_as2 (pc := 4) (ml' := [some (.ref 1), some (.int (nI 0)), some (.int (nI p)), some (.int q), some (.ref 60), none, none, none]) rfl rfl ?_
  refine x_al1 (pc := 6) rfl rfl ?_
  refine x_k (pc := 7) rfl rfl rfl ⟨Nat.le_of_ble_eq_true rfl, Nat.le_of_ble_eq_true rfl, Nat.le_of_ble_eq_true rfl⟩ rfl (k_60 (I := va_up I 28 (nI 0)) ((show (va_up I 28 (nI 0)) 0 = I 0 from rfl).trans (kD_1 hD ho)) ?_)
  show mq 58 10 [some (.ref 1), some (.int (nI 0)), some (.int (nI p)), some (.int q), some (.ref 60), none, none, none] [] (hS n u (va_up I 28 (nI 0)) A J B 53 60 L xs X) _
  refine x_il1 (pc := 10) rfl rfl ?_
  refine x_const (pc := 11) (pc' := 12) (.int (-1)) rfl rfl rfl rfl ?_
  refine x_cmp_ne (pc := 12) (t := 19) rfl rfl rfl (fun c12 => ?_) (fun c12 => ?_)
  · refine x_const (pc := 19) (pc' := 20) (.int (nI 0)) rfl rfl rfl rfl ?_
    refine x_is2 (pc := 20) (ml' := [some (.ref 1), some (.int (nI 0)), some (.int (nI p)), some (.int q), some (.ref 60), some (.int (nI 0)), none, none]) rfl rfl ?_
    refine x_il1 (pc := 22) rfl rfl ?_
    refine x_ifN_lt (pc := 23) (t := 62) rfl rfl (by omega) ?_
    refine x_il1 (pc := 26) rfl rfl ?_
    refine x_const (pc := 27) (pc' := 28) (.int (nI 3)) rfl rfl rfl rfl ?_
    refine x_cmpN_ge (pc := 28) (t := 62) rfl rfl (by decide) (by decide) (fun c => absurd c (by decide)) (fun _ => ?_)
    refine x_il1 (pc := 31) rfl rfl ?_
    refine x_const (pc := 32) (pc' := 33) (.int (-1)) rfl rfl rfl rfl ?_
    refine x_cmp_lt (pc := 33) (t := 62) rfl rfl rfl (fun c33 => ?_) (fun c33 => ?_)
    · exact absurd c33 (nI_m1lt hp8)
    · refine x_il1 (pc := 36) rfl rfl ?_
      refine x_const (pc := 37) (pc' := 39) (.int (nI 8)) rfl rfl rfl rfl ?_
      refine x_cmpN_ge (pc := 39) (t := 62) rfl rfl (by omega) (by omega) (fun c39 => ?_) (fun c39 => ?_)
      · omega
      · refine x_il2 (pc := 42) rfl rfl ?_
        refine x_ifN_ne (pc := 44) (t := 51) rfl rfl (by decide) (fun c => absurd c (by decide)) (fun _ => ?_)
        refine x_il1 (pc := 47) rfl rfl ?_
        refine x_if_lt (pc := 48) (t := 62) rfl rfl rfl (fun c48 => ?_) (fun c48 => ?_)
        · exact absurd c48 hq0
        · refine x_al2 (pc := 51) rfl rfl ?_
          refine g_60_0 (pc := 53) rfl rfl ?_
          refine g_61_5 (pc := 56) (v := nI l.length) rfl rfl hC.1 ?_
          refine x_ifN_ne (pc := 59) (t := 72) rfl rfl (by omega) (fun c59 => ?_) (fun c59 => ?_)
          · refine x_al2 (pc := 72) rfl rfl ?_
            refine x_il2 (pc := 74) rfl rfl ?_
            refine x_ifN_eq (pc := 76) (t := 85) rfl rfl (by decide) (fun _ => ?_) (fun c => absurd c (by decide))
            refine x_il1 (pc := 85) rfl rfl ?_
            refine x_il2 (pc := 86) rfl rfl ?_
            refine x_ifN_eq (pc := 88) (t := 95) rfl rfl (by decide) (fun _ => ?_) (fun c => absurd c (by decide))
            refine x_il1 (pc := 95) rfl rfl ?_
            refine x_k (pc := 96) rfl rfl rfl ⟨Nat.le_of_ble_eq_true rfl, Nat.le_of_ble_eq_true rfl, Nat.le_of_ble_eq_true rfl⟩ rfl (mq_k (c_43_3 (I := va_up I 28 (nI 0)) (A := A) _ _) ?_)
            show mq 58 99 [some (.ref 1), some (.int (nI 0)), some (.int (nI p)), some (.int q), some (.ref 60), some (.int (nI 0)), none, none] [] (hS n u (va_up (va_up (va_up I 28 (nI 0)) 29 (nI p)) 30 q) A J B 53 60 L xs X) _
            refine x_al1 (pc := 99) rfl rfl ?_
            refine g_1_2 (pc := 100) rfl rfl ?_
            refine x_il1 (pc := 103) rfl rfl ?_
            refine aal (pc := 104) (q := 0) (a := 13) rfl rfl (by decide) rfl ?_
            refine x_al2 (pc := 105) rfl rfl ?_
            refine x_k (pc := 107) rfl rfl rfl ⟨Nat.le_of_ble_eq_true rfl, Nat.le_of_ble_eq_true rfl, Nat.le_of_ble_eq_true rfl⟩ rfl (k_61d_0_60 (I := va_up (va_up (va_up I 28 (nI 0)) 29 (nI p)) 30 q) (A := A) (p := p) (q := q) rfl hp8 rfl hC.1 hl4 hm hm5 hns ?_)
            show mq 58 110 [some (.ref 1), some (.int (nI 0)), some (.int (nI p)), some (.int q), some (.ref 60), some (.int (nI 0)), none, none] [.int (-1)] (hS n u (va_up (va_up (va_up I 28 (nI 0)) 29 (nI p)) 30 q) A J B 53 60 L xs X) _
            refine x_is2 (pc := 110) (ml' := [some (.ref 1), some (.int (nI 0)), some (.int (nI p)), some (.int q), some (.ref 60), some (.int (nI 0)), some (.int (-1)), none]) rfl rfl ?_
            refine x_il2 (pc := 112) rfl rfl ?_
            refine x_if_lt (pc := 114) (t := 120) rfl rfl rfl (fun _ => ?_) (fun c => absurd (by decide) c)
            refine x_al1 (pc := 120) rfl rfl ?_
            refine x_al1 (pc := 121) rfl rfl ?_
            refine g_1_2 (pc := 122) rfl rfl ?_
            refine x_il1 (pc := 125) rfl rfl ?_
            refine aal (pc := 126) (q := 0) (a := 13) rfl rfl (by decide) rfl ?_
            refine x_al2 (pc := 127) rfl rfl ?_
            refine x_k (pc := 129) rfl rfl rfl ⟨Nat.le_of_ble_eq_true rfl, Nat.le_of_ble_eq_true rfl, Nat.le_of_ble_eq_true rfl⟩ rfl (k_62_0_60 (I := va_up (va_up (va_up I 28 (nI 0)) 29 (nI p)) 30 q) (A := A) (p := p) (q := q) rfl hp8 rfl hC.1 hl4 hm hm5 hor ?_)
            show mq 58 132 [some (.ref 1), some (.int (nI 0)), some (.int (nI p)), some (.int q), some (.ref 60), some (.int (nI 0)), some (.int (-1)), none] [] (hS n u (va_up (va_up (va_up I 28 (nI 0)) 29 (nI p)) 30 q) A J B 53 60 L xs X) _
            refine x_al1 (pc := 132) rfl rfl ?_
            refine x_al1 (pc := 133) rfl rfl ?_
            refine g_1_2 (pc := 134) rfl rfl ?_
            refine x_il1 (pc := 137) rfl rfl ?_
            refine aal (pc := 138) (q := 0) (a := 13) rfl rfl (by decide) rfl ?_
            refine x_al2 (pc := 139) rfl rfl ?_
            refine x_k (pc := 141) rfl rfl rfl ⟨Nat.le_of_ble_eq_true rfl, Nat.le_of_ble_eq_true rfl, Nat.le_of_ble_eq_true rfl⟩ rfl (k_63_0_3 (mk := 53) (sn := 60) (I := va_up (va_up (va_up I 28 (nI 0)) 29 (nI p)) 30 q) (A := A) (S := S) (f := f) (N := N) (l := l) (p := nI p) (q := q) (kD_on (kD_mk hD ho) ho (show Fr [29, 30, 28] I (va_up (va_up (va_up I 28 (nI 0)) 29 (nI p)) 30 q) from (Fr_u (Fr_u (Fr_u (Fr_refl _ I) (by decide)) (by decide)) (by decide))) (Fr_refl [] A) (by decide) (by decide)) ho (Or.inl ⟨rfl, rfl⟩) hn hu hcn hc hf hsl hN hNb ⟨rfl, rfl, hC.1, hC.2⟩ hl1 hl4 hroom (fun S6 f6 c6 e6 o6 I6 A6 x6 y6 h6 n6 b6 d6 s6 => ?_) (fun S6 f6 c6 e6 o6 I6 A6 x6 y6 h6 => mK_x rfl (kx S6 f6 c6 e6 o6 I6 A6 (Up_tr (Up_fr (show Fr [29, 30, 28] I (va_up (va_up (va_up I 28 (nI 0)) 29 (nI p)) 30 q) from (Fr_u (Fr_u (Fr_u (Fr_refl _ I) (by decide)) (by decide)) (by decide))) (by decide)) x6) y6 h6)) (fun e6 I6 A6 x6 y6 => mK_x rfl (kr e6 I6 A6 (Fr_cons (Fr_u (Fr_u (Fr_u (Fr_refl _ I) (by decide)) (by decide)) (by decide)) x6 (by decide)) y6 ((x6 28 (by decide)).trans rfl))))
            show mq 58 144 [some (.ref 1), some (.int (nI 0)), some (.int (nI p)), some (.int q), some (.ref 60), some (.int (nI 0)), some (.int (-1)), none] [.int (nI N)] (hS n u I6 A6 J B 53 60 L xs X) _
            refine x_is2 (pc := 144) (ml' := [some (.ref 1), some (.int (nI 0)), some (.int (nI p)), some (.int q), some (.ref 60), some (.int (nI 0)), some (.int (-1)), some (.int (nI N))]) rfl rfl ?_
            refine x_al1 (pc := 146) rfl rfl ?_
            refine g_1_2 (pc := 147) rfl rfl ?_
            refine x_il1 (pc := 150) rfl rfl ?_
            refine aal (pc := 151) (q := 0) (a := 13) rfl rfl (by decide) rfl ?_
            refine x_al2 (pc := 152) rfl rfl ?_
            refine x_il2 (pc := 154) rfl rfl ?_
            refine x_k (pc := 156) rfl rfl rfl ⟨Nat.le_of_ble_eq_true rfl, Nat.le_of_ble_eq_true rfl, Nat.le_of_ble_eq_true rfl⟩ rfl (k_46_0_3 (I := I6) (A := A6) (p := p) (m := (nmb N l).length) (q := q) (o := nI N) b6.1 hp8 b6.2.1 b6.2.2.1 (fun A7 y7 u7 v7 w7 => ?_))
            show mq 58 159 [some (.ref 1), some (.int (nI 0)), some (.int (nI p)), some (.int q), some (.ref 60), some (.int (nI 0)), some (.int (-1)), some (.int (nI N))] [] (hS n u I6 A7 J B 53 60 L xs X) _
            refine x_il2 (pc := 159) rfl rfl ?_
            refine x_ret (pc := 161) rfl rfl ?_
            rw [nmb_len] at v7
            exact kk S6 f6 c6 e6 o6 I6 A7 (Fr_cons (Fr_u (Fr_u (Fr_u (Fr_refl _ _) (by decide)) (by decide)) (by decide)) x6 (by decide)) (Fr_cons (Fr_cons (Fr_refl _ _) y6 (by decide)) y7 (by decide)) (kD_on h6 o6 (Fr_refl [] I6) y7 (by decide) (by decide)) ((x6 28 (by decide)).trans rfl) n6 d6 (fun j hj => by rw [y7 30 (by decide)]; exact s6 j hj) (by rw [u7, y6 31 (by decide)]) (by rw [v7, y6 32 (by decide)]) (by rw [w7, y6 33 (by decide)])
          · omega
  · exact absurd c12 (nI_m1 (by omega))
set_option maxRecDepth 100000 in
set_option maxHeartbeats 4000000 in
theorem k_58a_60_0 {S : DS} {mq0 : Nat} {q : Int32} {l : List R5} (hD : kD mq0 S I A) (ho : dO S = false) (hC : BC 3 I A l) (hl1 : 1 ≤ l.length) (hl4 : l.length ≤ 4) {cn N : Nat} {f : Nat → Nat} (hcn : cn ≤ 16) (hc : I 40 = nI cn) (hf : ∀ k, k < cn → f k < 16) (hsl : ∀ j, j < cn → A 30 j = nI (f j)) (hN : I 42 = nI N) (hNb : N + 4 < 2 ^ 31) (hroom : frS (dD S) 16 0 = -1 ∨ cn < 16) (hn : 77 ≤ n ∧ n < 10000) (hu : u + 6 < 1000000) {Q : mO × mHp → Prop} (kk : ∀ S' f' cn', apS S 0 f cn N (nI 255) (nI 0) (nmb N l) = some (S', f', cn') → dO S' = false → ∀ I' A', Fr [2, 3, 14, 15, 40, 42, 29, 30, 28] I I' → Fr [0, 3, 4, 30, 25] A A' → kD 53 S' I' A' → I' 28 = nI 0 → I' 42 = nI (N + l.length) → I' 40 = nI cn' → (∀ j, j < cn' → A' 30 j = nI (f' j)) → Q (.inl (some (.int (nI N))), hS n u I' A' J B 53 60 L xs X)) (kx : ∀ S' f' cn', apS S 0 f cn N (nI 255) (nI 0) (nmb N l) = some (S', f', cn') → dO S' = true → ∀ I' A', Up 60 I I' → Up 50 A A' → kD 53 S' I' A' → Q (.inr n, hS (n + 1) (u + 6) I' A' J B 53 60 L xs (va_up X n (.inr (9, []))))) (kr : apS S 0 f cn N (nI 255) (nI 0) (nmb N l) = none → ∀ I' A', Fr [14, 29, 30, 28] I I' → Fr [3, 25] A A' → I' 28 = nI 0 → Q (.inr n, hS (n + 1) (u + 6) I' A' J B 53 60 L xs (va_up X n (.inr (11, []))))) : mq 58 0 [some (.ref 1), some (.int (nI 0)), some (.int (-1)), some (.int q), none, none, none, none] [] (hS n u I A J B 60 53 L xs X) Q := by
  refine x_al1 (pc := 0) rfl rfl ?_
  refine x_k (pc := 1) rfl rfl rfl ⟨Nat.le_of_ble_eq_true rfl, Nat.le_of_ble_eq_true rfl, Nat.le_of_ble_eq_true rfl⟩ rfl (k_59_60 (I := I) (A := A) ?_)
  show mq 58 4 [some (.ref 1), some (.int (nI 0)), some (.int (-1)), some (.int q), none, none, none, none] [.ref 60] (hS n u (va_up I 28 (nI 0)) A J B 53 60 L xs X) _
  refine x_as2 (pc := 4) (ml' := [some (.ref 1), some (.int (nI 0)), some (.int (-1)), some (.int q), some (.ref 60), none, none, none]) rfl rfl ?_
  refine x_al1 (pc := 6) rfl rfl ?_
  refine x_k (pc := 7) rfl rfl rfl ⟨Nat.le_of_ble_eq_true rfl, Nat.le_of_ble_eq_true rfl, Nat.le_of_ble_eq_true rfl⟩ rfl (k_60 (I := va_up I 28 (nI 0)) ((show (va_up I 28 (nI 0)) 0 = I 0 from rfl).trans (kD_1 hD ho)) ?_)
  show mq 58 10 [some (.ref 1), some (.int (nI 0)), some (.int (-1)), some (.int q), some (.ref 60), none, none, none] [] (hS n u (va_up I 28 (nI 0)) A J B 53 60 L xs X) _
  refine x_il1 (pc := 10) rfl rfl ?_
  refine x_const (pc := 11) (pc' := 12) (.int (-1)) rfl rfl rfl rfl ?_
  refine x_cmp_ne (pc := 12) (t := 19) rfl rfl rfl (fun c12 => ?_) (fun c12 => ?_)
  · exact absurd rfl c12
  · refine x_const (pc := 15) (pc' := 16) (.int (nI 1)) rfl rfl rfl rfl ?_
    refine x_step (pc := 16) (pc' := 20) rfl rfl rfl rfl ?_
    refine x_is2 (pc := 20) (ml' := [some (.ref 1), some (.int (nI 0)), some (.int (-1)), some (.int q), some (.ref 60), some (.int (nI 1)), none, none]) rfl rfl ?_
    refine x_il1 (pc := 22) rfl rfl ?_
    refine x_ifN_lt (pc := 23) (t := 62) rfl rfl (by omega) ?_
    refine x_il1 (pc := 26) rfl rfl ?_
    refine x_const (pc := 27) (pc' := 28) (.int (nI 3)) rfl rfl rfl rfl ?_
    refine x_cmpN_ge (pc := 28) (t := 62) rfl rfl (by decide) (by decide) (fun c => absurd c (by decide)) (fun _ => ?_)
    refine x_il1 (pc := 31) rfl rfl ?_
    refine x_const (pc := 32) (pc' := 33) (.int (-1)) rfl rfl rfl rfl ?_
    refine x_cmp_lt (pc := 33) (t := 62) rfl rfl rfl (fun c33 => ?_) (fun c33 => ?_)
    · exact absurd c33 (by decide)
    · refine x_il1 (pc := 36) rfl rfl ?_
      refine x_const (pc := 37) (pc' := 39) (.int (nI 8)) rfl rfl rfl rfl ?_
      refine x_cmp_ge (pc := 39) (t := 62) rfl rfl rfl (fun c39 => ?_) (fun c39 => ?_)
      · exact absurd c39 (by decide)
      · refine x_il2 (pc := 42) rfl rfl ?_
        refine x_ifN_ne (pc := 44) (t := 51) rfl rfl (by decide) (fun _ => ?_) (fun c => absurd c (by decide))
        refine x_al2 (pc := 51) rfl rfl ?_
        refine g_60_0 (pc := 53) rfl rfl ?_
        refine g_61_5 (pc := 56) (v := nI l.length) rfl rfl hC.1 ?_
        refine x_ifN_ne (pc := 59) (t := 72) rfl rfl (by omega) (fun c59 => ?_) (fun c59 => ?_)
        · refine x_al2 (pc := 72) rfl rfl ?_
          refine x_il2 (pc := 74) rfl rfl ?_
          refine x_ifN_eq (pc := 76) (t := 85) rfl rfl (by decide) (fun c => absurd c (by decide)) (fun _ => ?_)
          refine x_const (pc := 79) (pc' := 82) (.int (nI 255)) rfl rfl rfl rfl ?_
          refine x_step (pc := 82) (pc' := 86) rfl rfl rfl rfl ?_
          refine x_il2 (pc := 86) rfl rfl ?_
          refine x_ifN_eq (pc := 88) (t := 95) rfl rfl (by decide) (fun c => absurd c (by decide)) (fun _ => ?_)
          refine x_const (pc := 91) (pc' := 92) (.int (nI 0)) rfl rfl rfl rfl ?_
          refine x_step (pc := 92) (pc' := 96) rfl rfl rfl rfl ?_
          refine x_k (pc := 96) rfl rfl rfl ⟨Nat.le_of_ble_eq_true rfl, Nat.le_of_ble_eq_true rfl, Nat.le_of_ble_eq_true rfl⟩ rfl (mq_k (c_43_3 (I := va_up I 28 (nI 0)) (A := A) _ _) ?_)
          show mq 58 99 [some (.ref 1), some (.int (nI 0)), some (.int (-1)), some (.int q), some (.ref 60), some (.int (nI 1)), none, none] [] (hS n u (va_up (va_up (va_up I 28 (nI 0)) 29 (nI 255)) 30 (nI 0)) A J B 53 60 L xs X) _
          refine x_al1 (pc := 99) rfl rfl ?_
          refine g_1_2 (pc := 100) rfl rfl ?_
          refine x_il1 (pc := 103) rfl rfl ?_
          refine aal (pc := 104) (q := 0) (a := 13) rfl rfl (by decide) rfl ?_
          refine x_al2 (pc := 105) rfl rfl ?_
          refine x_k (pc := 107) rfl rfl rfl ⟨Nat.le_of_ble_eq_true rfl, Nat.le_of_ble_eq_true rfl, Nat.le_of_ble_eq_true rfl⟩ rfl (k_61n_0_60 (I := va_up (va_up (va_up I 28 (nI 0)) 29 (nI 255)) 30 (nI 0)) (A := A) rfl ?_)
          show mq 58 110 [some (.ref 1), some (.int (nI 0)), some (.int (-1)), some (.int q), some (.ref 60), some (.int (nI 1)), none, none] [.int (-1)] (hS n u (va_up (va_up (va_up I 28 (nI 0)) 29 (nI 255)) 30 (nI 0)) A J B 53 60 L xs X) _
          refine x_is2 (pc := 110) (ml' := [some (.ref 1), some (.int (nI 0)), some (.int (-1)), some (.int q), some (.ref 60), some (.int (nI 1)), some (.int (-1)), none]) rfl rfl ?_
          refine x_il2 (pc := 112) rfl rfl ?_
          refine x_if_lt (pc := 114) (t := 120) rfl rfl rfl (fun _ => ?_) (fun c => absurd (by decide) c)
          refine x_al1 (pc := 120) rfl rfl ?_
          refine x_al1 (pc := 121) rfl rfl ?_
          refine g_1_2 (pc := 122) rfl rfl ?_
          refine x_il1 (pc := 125) rfl rfl ?_
          refine aal (pc := 126) (q := 0) (a := 13) rfl rfl (by decide) rfl ?_
          refine x_al2 (pc := 127) rfl rfl ?_
          refine x_k (pc := 129) rfl rfl rfl ⟨Nat.le_of_ble_eq_true rfl, Nat.le_of_ble_eq_true rfl, Nat.le_of_ble_eq_true rfl⟩ rfl (k_62n_0_60 (I := va_up (va_up (va_up I 28 (nI 0)) 29 (nI 255)) 30 (nI 0)) (A := A) rfl ?_)
          show mq 58 132 [some (.ref 1), some (.int (nI 0)), some (.int (-1)), some (.int q), some (.ref 60), some (.int (nI 1)), some (.int (-1)), none] [] (hS n u (va_up (va_up (va_up I 28 (nI 0)) 29 (nI 255)) 30 (nI 0)) A J B 53 60 L xs X) _
          refine x_al1 (pc := 132) rfl rfl ?_
          refine x_al1 (pc := 133) rfl rfl ?_
          refine g_1_2 (pc := 134) rfl rfl ?_
          refine x_il1 (pc := 137) rfl rfl ?_
          refine aal (pc := 138) (q := 0) (a := 13) rfl rfl (by decide) rfl ?_
          refine x_al2 (pc := 139) rfl rfl ?_
          refine x_k (pc := 141) rfl rfl rfl ⟨Nat.le_of_ble_eq_true rfl, Nat.le_of_ble_eq_true rfl, Nat.le_of_ble_eq_true rfl⟩ rfl (k_63_0_3 (mk := 53) (sn := 60) (I := va_up (va_up (va_up I 28 (nI 0)) 29 (nI 255)) 30 (nI 0)) (A := A) (S := S) (f := f) (N := N) (l := l) (p := nI 255) (q := nI 0) (kD_on (kD_mk hD ho) ho (show Fr [29, 30, 28] I (va_up (va_up (va_up I 28 (nI 0)) 29 (nI 255)) 30 (nI 0)) from (Fr_u (Fr_u (Fr_u (Fr_refl _ I) (by decide)) (by decide)) (by decide))) (Fr_refl [] A) (by decide) (by decide)) ho (Or.inl ⟨rfl, rfl⟩) hn hu hcn hc hf hsl hN hNb ⟨rfl, rfl, hC.1, hC.2⟩ hl1 hl4 hroom (fun S6 f6 c6 e6 o6 I6 A6 x6 y6 h6 n6 b6 d6 s6 => ?_) (fun S6 f6 c6 e6 o6 I6 A6 x6 y6 h6 => mK_x rfl (kx S6 f6 c6 e6 o6 I6 A6 (Up_tr (Up_fr (show Fr [29, 30, 28] I (va_up (va_up (va_up I 28 (nI 0)) 29 (nI 255)) 30 (nI 0)) from (Fr_u (Fr_u (Fr_u (Fr_refl _ I) (by decide)) (by decide)) (by decide))) (by decide)) x6) y6 h6)) (fun e6 I6 A6 x6 y6 => mK_x rfl (kr e6 I6 A6 (Fr_cons (Fr_u (Fr_u (Fr_u (Fr_refl _ I) (by decide)) (by decide)) (by decide)) x6 (by decide)) y6 ((x6 28 (by decide)).trans rfl))))
          show mq 58 144 [some (.ref 1), some (.int (nI 0)), some (.int (-1)), some (.int q), some (.ref 60), some (.int (nI 1)), some (.int (-1)), none] [.int (nI N)] (hS n u I6 A6 J B 53 60 L xs X) _
          refine x_is2 (pc := 144) (ml' := [some (.ref 1), some (.int (nI 0)), some (.int (-1)), some (.int q), some (.ref 60), some (.int (nI 1)), some (.int (-1)), some (.int (nI N))]) rfl rfl ?_
          refine x_al1 (pc := 146) rfl rfl ?_
          refine g_1_2 (pc := 147) rfl rfl ?_
          refine x_il1 (pc := 150) rfl rfl ?_
          refine aal (pc := 151) (q := 0) (a := 13) rfl rfl (by decide) rfl ?_
          refine x_al2 (pc := 152) rfl rfl ?_
          refine x_il2 (pc := 154) rfl rfl ?_
          refine x_k (pc := 156) rfl rfl rfl ⟨Nat.le_of_ble_eq_true rfl, Nat.le_of_ble_eq_true rfl, Nat.le_of_ble_eq_true rfl⟩ rfl (k_46n_0_3 (I := I6) (A := A6) (p := 255) (o := nI N) b6.1 (by decide) ?_)
          show mq 58 159 [some (.ref 1), some (.int (nI 0)), some (.int (-1)), some (.int q), some (.ref 60), some (.int (nI 1)), some (.int (-1)), some (.int (nI N))] [] (hS n u I6 A6 J B 53 60 L xs X) _
          refine x_il2 (pc := 159) rfl rfl ?_
          refine x_ret (pc := 161) rfl rfl ?_
          exact kk S6 f6 c6 e6 o6 I6 A6 (Fr_cons (Fr_u (Fr_u (Fr_u (Fr_refl _ _) (by decide)) (by decide)) (by decide)) x6 (by decide)) (Fr_cons (Fr_refl _ _) y6 (by decide)) h6 ((x6 28 (by decide)).trans rfl) n6 d6 s6
        · omega
set_option maxRecDepth 100000 in
set_option maxHeartbeats 4000000 in
theorem k_58s_60_1 {S : DS} {mq0 p m : Nat} {q : Int32} {l : List R5} (hD : kD mq0 S I A) (ho : dO S = false) (hC : BC 3 I A l) (hl1 : 1 ≤ l.length) (hl4 : l.length ≤ 4) (hp8 : p < 8) (hq0 : ¬ q < 0) (hm : A 36 p = nI m) (hm5 : m < 5) (hs1 : ¬ m = 0) (hs2 : A 35 p = q) (hs3 : m = l.length) {o : Nat} (ho9 : A 37 p = nI o) (ho31 : o < 2 ^ 31) {Q : mO × mHp → Prop} (kk : Q (.inl (some (.int (A 37 p))), hS n u (va_up (va_up (va_up I 28 (nI 0)) 29 (nI p)) 30 q) A J B 53 60 L xs X)) : mq 58 0 [some (.ref 1), some (.int (nI 1)), some (.int (nI p)), some (.int q), none, none, none, none] [] (hS n u I A J B 60 53 L xs X) Q := by
  refine x_al1 (pc := 0) rfl rfl ?_
  refine x_k (pc := 1) rfl rfl rfl ⟨Nat.le_of_ble_eq_true rfl, Nat.le_of_ble_eq_true rfl, Nat.le_of_ble_eq_true rfl⟩ rfl (k_59_60 (I := I) (A := A) ?_)
  show mq 58 4 [some (.ref 1), some (.int (nI 1)), some (.int (nI p)), some (.int q), none, none, none, none] [.ref 60] (hS n u (va_up I 28 (nI 0)) A J B 53 60 L xs X) _
  refine x_as2 (pc := 4) (ml' := [some (.ref 1), some (.int (nI 1)), some (.int (nI p)), some (.int q), some (.ref 60), none, none, none]) rfl rfl ?_
  refine x_al1 (pc := 6) rfl rfl ?_
  refine x_k (pc := 7) rfl rfl rfl ⟨Nat.le_of_ble_eq_true rfl, Nat.le_of_ble_eq_true rfl, Nat.le_of_ble_eq_true rfl⟩ rfl (k_60 (I := va_up I 28 (nI 0)) ((show (va_up I 28 (nI 0)) 0 = I 0 from rfl).trans (kD_1 hD ho)) ?_)
  show mq 58 10 [some (.ref 1), some (.int (nI 1)), some (.int (nI p)), some (.int q), some (.ref 60), none, none, none] [] (hS n u (va_up I 28 (nI 0)) A J B 53 60 L xs X) _
  refine x_il1 (pc := 10) rfl rfl ?_
  refine x_const (pc := 11) (pc' := 12) (.int (-1)) rfl rfl rfl rfl ?_
  refine x_cmp_ne (pc := 12) (t := 19) rfl rfl rfl (fun c12 => ?_) (fun c12 => ?_)
  · refine x_const (pc := 19) (pc' := 20) (.int (nI 0)) rfl rfl rfl rfl ?_
    refine x_is2 (pc := 20) (ml' := [some (.ref 1), some (.int (nI 1)), some (.int (nI p)), some (.int q), some (.ref 60), some (.int (nI 0)), none, none]) rfl rfl ?_
    refine x_il1 (pc := 22) rfl rfl ?_
    refine x_ifN_lt (pc := 23) (t := 62) rfl rfl (by omega) ?_
    refine x_il1 (pc := 26) rfl rfl ?_
    refine x_const (pc := 27) (pc' := 28) (.int (nI 3)) rfl rfl rfl rfl ?_
    refine x_cmpN_ge (pc := 28) (t := 62) rfl rfl (by decide) (by decide) (fun c => absurd c (by decide)) (fun _ => ?_)
    refine x_il1 (pc := 31) rfl rfl ?_
    refine x_const (pc := 32) (pc' := 33) (.int (-1)) rfl rfl rfl rfl ?_
    refine x_cmp_lt (pc := 33) (t := 62) rfl rfl rfl (fun c33 => ?_) (fun c33 => ?_)
    · exact absurd c33 (nI_m1lt hp8)
    · refine x_il1 (pc := 36) rfl rfl ?_
      refine x_const (pc := 37) (pc' := 39) (.int (nI 8)) rfl rfl rfl rfl ?_
      refine x_cmpN_ge (pc := 39) (t := 62) rfl rfl (by omega) (by omega) (fun c39 => ?_) (fun c39 => ?_)
      · omega
      · refine x_il2 (pc := 42) rfl rfl ?_
        refine x_ifN_ne (pc := 44) (t := 51) rfl rfl (by decide) (fun c => absurd c (by decide)) (fun _ => ?_)
        refine x_il1 (pc := 47) rfl rfl ?_
        refine x_if_lt (pc := 48) (t := 62) rfl rfl rfl (fun c48 => ?_) (fun c48 => ?_)
        · exact absurd c48 hq0
        · refine x_al2 (pc := 51) rfl rfl ?_
          refine g_60_0 (pc := 53) rfl rfl ?_
          refine g_61_5 (pc := 56) (v := nI l.length) rfl rfl hC.1 ?_
          refine x_ifN_ne (pc := 59) (t := 72) rfl rfl (by omega) (fun c59 => ?_) (fun c59 => ?_)
          · refine x_al2 (pc := 72) rfl rfl ?_
            refine x_il2 (pc := 74) rfl rfl ?_
            refine x_ifN_eq (pc := 76) (t := 85) rfl rfl (by decide) (fun _ => ?_) (fun c => absurd c (by decide))
            refine x_il1 (pc := 85) rfl rfl ?_
            refine x_il2 (pc := 86) rfl rfl ?_
            refine x_ifN_eq (pc := 88) (t := 95) rfl rfl (by decide) (fun _ => ?_) (fun c => absurd c (by decide))
            refine x_il1 (pc := 95) rfl rfl ?_
            refine x_k (pc := 96) rfl rfl rfl ⟨Nat.le_of_ble_eq_true rfl, Nat.le_of_ble_eq_true rfl, Nat.le_of_ble_eq_true rfl⟩ rfl (mq_k (c_43_3 (I := va_up I 28 (nI 0)) (A := A) _ _) ?_)
            show mq 58 99 [some (.ref 1), some (.int (nI 1)), some (.int (nI p)), some (.int q), some (.ref 60), some (.int (nI 0)), none, none] [] (hS n u (va_up (va_up (va_up I 28 (nI 0)) 29 (nI p)) 30 q) A J B 53 60 L xs X) _
            refine x_al1 (pc := 99) rfl rfl ?_
            refine g_1_2 (pc := 100) rfl rfl ?_
            refine x_il1 (pc := 103) rfl rfl ?_
            refine aal (pc := 104) (q := 1) (a := 18) rfl rfl (by decide) rfl ?_
            refine x_al2 (pc := 105) rfl rfl ?_
            refine x_k (pc := 107) rfl rfl rfl ⟨Nat.le_of_ble_eq_true rfl, Nat.le_of_ble_eq_true rfl, Nat.le_of_ble_eq_true rfl⟩ rfl (k_61s_1_60 (I := va_up (va_up (va_up I 28 (nI 0)) 29 (nI p)) 30 q) (A := A) (p := p) (q := q) rfl hp8 rfl hC.1 hl4 hm hm5 hs1 hs2 hs3 ?_)
            show mq 58 110 [some (.ref 1), some (.int (nI 1)), some (.int (nI p)), some (.int q), some (.ref 60), some (.int (nI 0)), none, none] [.int (A 37 p)] (hS n u (va_up (va_up (va_up I 28 (nI 0)) 29 (nI p)) 30 q) A J B 53 60 L xs X) _
            refine x_top (y := nI o) (ho9) ?_
            refine x_is2 (pc := 110) (ml' := [some (.ref 1), some (.int (nI 1)), some (.int (nI p)), some (.int q), some (.ref 60), some (.int (nI 0)), some (.int (nI o)), none]) rfl rfl ?_
            refine x_il2 (pc := 112) rfl rfl ?_
            refine x_ifN_lt (pc := 114) (t := 120) rfl rfl (by omega) ?_
            refine x_il2 (pc := 117) rfl rfl ?_
            refine x_ret (pc := 119) rfl rfl ?_
            rw [← ho9]
            exact kk
          · omega
  · exact absurd c12 (nI_m1 (by omega))
set_option maxRecDepth 100000 in
set_option maxHeartbeats 4000000 in
theorem k_58o_60_1 {S : DS} {mq0 p m : Nat} {q : Int32} {l : List R5} (hD : kD mq0 S I A) (ho : dO S = false) (hC : BC 3 I A l) (hl1 : 1 ≤ l.length) (hl4 : l.length ≤ 4) (hp8 : p < 8) (hq0 : ¬ q < 0) (hm : A 36 p = nI m) (hm5 : m < 5) (hns : ¬ (¬ m = 0 ∧ A 35 p = q ∧ m = l.length)) (hm0 : ¬ m = 0) (hor : ¬ A 35 p + nI m = q) (hn : 77 ≤ n ∧ n < 10000) (hu : u + 6 < 1000000) {Q : mO × mHp → Prop} (kk : Q (.inr n, hS (n + 1) (u + 6) (va_up (va_up (va_up I 28 (nI 0)) 29 (nI p)) 30 q) A J B 53 60 L xs (va_up X n (.inr (11, []))))) : mq 58 0 [some (.ref 1), some (.int (nI 1)), some (.int (nI p)), some (.int q), none, none, none, none] [] (hS n u I A J B 60 53 L xs X) Q := by
  refine x_al1 (pc := 0) rfl rfl ?_
  refine x_k (pc := 1) rfl rfl rfl ⟨Nat.le_of_ble_eq_true rfl, Nat.le_of_ble_eq_true rfl, Nat.le_of_ble_eq_true rfl⟩ rfl (k_59_60 (I := I) (A := A) ?_)
  show mq 58 4 [some (.ref 1), some (.int (nI 1)), some (.int (nI p)), some (.int q), none, none, none, none] [.ref 60] (hS n u (va_up I 28 (nI 0)) A J B 53 60 L xs X) _
  refine x_as2 (pc := 4) (ml' := [some (.ref 1), some (.int (nI 1)), some (.int (nI p)), some (.int q), some (.ref 60), none, none, none]) rfl rfl ?_
  refine x_al1 (pc := 6) rfl rfl ?_
  refine x_k (pc := 7) rfl rfl rfl ⟨Nat.le_of_ble_eq_true rfl, Nat.le_of_ble_eq_true rfl, Nat.le_of_ble_eq_true rfl⟩ rfl (k_60 (I := va_up I 28 (nI 0)) ((show (va_up I 28 (nI 0)) 0 = I 0 from rfl).trans (kD_1 hD ho)) ?_)
  show mq 58 10 [some (.ref 1), some (.int (nI 1)), some (.int (nI p)), some (.int q), some (.ref 60), none, none, none] [] (hS n u (va_up I 28 (nI 0)) A J B 53 60 L xs X) _
  refine x_il1 (pc := 10) rfl rfl ?_
  refine x_const (pc := 11) (pc' := 12) (.int (-1)) rfl rfl rfl rfl ?_
  refine x_cmp_ne (pc := 12) (t := 19) rfl rfl rfl (fun c12 => ?_) (fun c12 => ?_)
  · refine x_const (pc := 19) (pc' := 20) (.int (nI 0)) rfl rfl rfl rfl ?_
    refine x_is2 (pc := 20) (ml' := [some (.ref 1), some (.int (nI 1)), some (.int (nI p)), some (.int q), some (.ref 60), some (.int (nI 0)), none, none]) rfl rfl ?_
    refine x_il1 (pc := 22) rfl rfl ?_
    refine x_ifN_lt (pc := 23) (t := 62) rfl rfl (by omega) ?_
    refine x_il1 (pc := 26) rfl rfl ?_
    refine x_const (pc := 27) (pc' := 28) (.int (nI 3)) rfl rfl rfl rfl ?_
    refine x_cmpN_ge (pc := 28) (t := 62) rfl rfl (by decide) (by decide) (fun c => absurd c (by decide)) (fun _ => ?_)
    refine x_il1 (pc := 31) rfl rfl ?_
    refine x_const (pc := 32) (pc' := 33) (.int (-1)) rfl rfl rfl rfl ?_
    refine x_cmp_lt (pc := 33) (t := 62) rfl rfl rfl (fun c33 => ?_) (fun c33 => ?_)
    · exact absurd c33 (nI_m1lt hp8)
    · refine x_il1 (pc := 36) rfl rfl ?_
      refine x_const (pc := 37) (pc' := 39) (.int (nI 8)) rfl rfl rfl rfl ?_
      refine x_cmpN_ge (pc := 39) (t := 62) rfl rfl (by omega) (by omega) (fun c39 => ?_) (fun c39 => ?_)
      · omega
      · refine x_il2 (pc := 42) rfl rfl ?_
        refine x_ifN_ne (pc := 44) (t := 51) rfl rfl (by decide) (fun c => absurd c (by decide)) (fun _ => ?_)
        refine x_il1 (pc := 47) rfl rfl ?_
        refine x_if_lt (pc := 48) (t := 62) rfl rfl rfl (fun c48 => ?_) (fun c48 => ?_)
        · exact absurd c48 hq0
        · refine x_al2 (pc := 51) rfl rfl ?_
          refine g_60_0 (pc := 53) rfl rfl ?_
          refine g_61_5 (pc := 56) (v := nI l.length) rfl rfl hC.1 ?_
          refine x_ifN_ne (pc := 59) (t := 72) rfl rfl (by omega) (fun c59 => ?_) (fun c59 => ?_)
          · refine x_al2 (pc := 72) rfl rfl ?_
            refine x_il2 (pc := 74) rfl rfl ?_
            refine x_ifN_eq (pc := 76) (t := 85) rfl rfl (by decide) (fun _ => ?_) (fun c => absurd c (by decide))
            refine x_il1 (pc := 85) rfl rfl ?_
            refine x_il2 (pc := 86) rfl rfl ?_
            refine x_ifN_eq (pc := 88) (t := 95) rfl rfl (by decide) (fun _ => ?_) (fun c => absurd c (by decide))
            refine x_il1 (pc := 95) rfl rfl ?_
            refine x_k (pc := 96) rfl rfl rfl ⟨Nat.le_of_ble_eq_true rfl, Nat.le_of_ble_eq_true rfl, Nat.le_of_ble_eq_true rfl⟩ rfl (mq_k (c_43_3 (I := va_up I 28 (nI 0)) (A := A) _ _) ?_)
            show mq 58 99 [some (.ref 1), some (.int (nI 1)), some (.int (nI p)), some (.int q), some (.ref 60), some (.int (nI 0)), none, none] [] (hS n u (va_up (va_up (va_up I 28 (nI 0)) 29 (nI p)) 30 q) A J B 53 60 L xs X) _
            refine x_al1 (pc := 99) rfl rfl ?_
            refine g_1_2 (pc := 100) rfl rfl ?_
            refine x_il1 (pc := 103) rfl rfl ?_
            refine aal (pc := 104) (q := 1) (a := 18) rfl rfl (by decide) rfl ?_
            refine x_al2 (pc := 105) rfl rfl ?_
            refine x_k (pc := 107) rfl rfl rfl ⟨Nat.le_of_ble_eq_true rfl, Nat.le_of_ble_eq_true rfl, Nat.le_of_ble_eq_true rfl⟩ rfl (k_61d_1_60 (I := va_up (va_up (va_up I 28 (nI 0)) 29 (nI p)) 30 q) (A := A) (p := p) (q := q) rfl hp8 rfl hC.1 hl4 hm hm5 hns ?_)
            show mq 58 110 [some (.ref 1), some (.int (nI 1)), some (.int (nI p)), some (.int q), some (.ref 60), some (.int (nI 0)), none, none] [.int (-1)] (hS n u (va_up (va_up (va_up I 28 (nI 0)) 29 (nI p)) 30 q) A J B 53 60 L xs X) _
            refine x_is2 (pc := 110) (ml' := [some (.ref 1), some (.int (nI 1)), some (.int (nI p)), some (.int q), some (.ref 60), some (.int (nI 0)), some (.int (-1)), none]) rfl rfl ?_
            refine x_il2 (pc := 112) rfl rfl ?_
            refine x_if_lt (pc := 114) (t := 120) rfl rfl rfl (fun _ => ?_) (fun c => absurd (by decide) c)
            refine x_al1 (pc := 120) rfl rfl ?_
            refine x_al1 (pc := 121) rfl rfl ?_
            refine g_1_2 (pc := 122) rfl rfl ?_
            refine x_il1 (pc := 125) rfl rfl ?_
            refine aal (pc := 126) (q := 1) (a := 18) rfl rfl (by decide) rfl ?_
            refine x_al2 (pc := 127) rfl rfl ?_
            refine x_k (pc := 129) rfl rfl rfl ⟨Nat.le_of_ble_eq_true rfl, Nat.le_of_ble_eq_true rfl, Nat.le_of_ble_eq_true rfl⟩ rfl (k_62x_1_60 (I := va_up (va_up (va_up I 28 (nI 0)) 29 (nI p)) 30 q) (A := A) (p := p) (q := q) rfl hp8 rfl hC.1 hl4 hm hm5 hm0 hor hn hu (mK_x rfl kk))
          · omega
  · exact absurd c12 (nI_m1 (by omega))
set_option maxRecDepth 100000 in
set_option maxHeartbeats 4000000 in
theorem k_58p_60_1 {S : DS} {mq0 p m : Nat} {q : Int32} {l : List R5} (hD : kD mq0 S I A) (ho : dO S = false) (hC : BC 3 I A l) (hl1 : 1 ≤ l.length) (hl4 : l.length ≤ 4) (hp8 : p < 8) (hq0 : ¬ q < 0) (hm : A 36 p = nI m) (hm5 : m < 5) (hns : ¬ (¬ m = 0 ∧ A 35 p = q ∧ m = l.length)) (hor : m = 0 ∨ A 35 p + nI m = q) {cn N : Nat} {f : Nat → Nat} (hcn : cn ≤ 16) (hc : I 43 = nI cn) (hf : ∀ k, k < cn → f k < 16) (hsl : ∀ j, j < cn → A 34 j = nI (f j)) (hN : I 45 = nI N) (hNb : N + 4 < 2 ^ 31) (hroom : frS (dD S) 16 0 = -1 ∨ cn < 16) (hn : 77 ≤ n ∧ n < 10000) (hu : u + 6 < 1000000) {Q : mO × mHp → Prop} (kk : ∀ S' f' cn', apS S 1 f cn N (nI p) q (nmb N l) = some (S', f', cn') → dO S' = false → ∀ I' A', Fr [2, 3, 14, 15, 43, 45, 29, 30, 28] I I' → Fr [0, 3, 4, 34, 25, 35, 36, 37] A A' → kD 53 S' I' A' → I' 28 = nI 0 → I' 45 = nI (N + l.length) → I' 43 = nI cn' → (∀ j, j < cn' → A' 34 j = nI (f' j)) → A' 35 = upd (A 35) p q → A' 36 = upd (A 36) p (nI l.length) → A' 37 = upd (A 37) p (nI N) → Q (.inl (some (.int (nI N))), hS n u I' A' J B 53 60 L xs X)) (kx : ∀ S' f' cn', apS S 1 f cn N (nI p) q (nmb N l) = some (S', f', cn') → dO S' = true → ∀ I' A', Up 60 I I' → Up 50 A A' → kD 53 S' I' A' → Q (.inr n, hS (n + 1) (u + 6) I' A' J B 53 60 L xs (va_up X n (.inr (9, []))))) (kr : apS S 1 f cn N (nI p) q (nmb N l) = none → ∀ I' A', Fr [14, 29, 30, 28] I I' → Fr [3, 25] A A' → I' 28 = nI 0 → Q (.inr n, hS (n + 1) (u + 6) I' A' J B 53 60 L xs (va_up X n (.inr (11, []))))) : mq 58 0 [some (.ref 1), some (.int (nI 1)), some (.int (nI p)), some (.int q), none, none, none, none] [] (hS n u I A J B 60 53 L xs X) Q := by
  refine x_al1 (pc := 0) rfl rfl ?_
  refine x_k (pc := 1) rfl rfl rfl ⟨Nat.le_of_ble_eq_true rfl, Nat.le_of_ble_eq_true rfl, Nat.le_of_ble_eq_true rfl⟩ rfl (k_59_60 (I := I) (A := A) ?_)
  show mq 58 4 [some (.ref 1), some (.int (nI 1)), some (.int (nI p)), some (.int q), none, none, none, none] [.ref 60] (hS n u (va_up I 28 (nI 0)) A J B 53 60 L xs X) _
  refine x_as2 (pc := 4) (ml' := [some (.ref 1), some (.int (nI 1)), some (.int (nI p)), some (.int q), some (.ref 60), none, none, none]) rfl rfl ?_
  refine x_al1 (pc := 6) rfl rfl ?_
  refine x_k (pc := 7) rfl rfl rfl ⟨Nat.le_of_ble_eq_true rfl, Nat.le_of_ble_eq_true rfl, Nat.le_of_ble_eq_true rfl⟩ rfl (k_60 (I := va_up I 28 (nI 0)) ((show (va_up I 28 (nI 0)) 0 = I 0 from rfl).trans (kD_1 hD ho)) ?_)
  show mq 58 10 [some (.ref 1), some (.int (nI 1)), some (.int (nI p)), some (.int q), some (.ref 60), none, none, none] [] (hS n u (va_up I 28 (nI 0)) A J B 53 60 L xs X) _
  refine x_il1 (pc := 10) rfl rfl ?_
  refine x_const (pc := 11) (pc' := 12) (.int (-1)) rfl rfl rfl rfl ?_
  refine x_cmp_ne (pc := 12) (t := 19) rfl rfl rfl (fun c12 => ?_) (fun c12 => ?_)
  · refine x_const (pc := 19) (pc' := 20) (.int (nI 0)) rfl rfl rfl rfl ?_
    refine x_is2 (pc := 20) (ml' := [some (.ref 1), some (.int (nI 1)), some (.int (nI p)), some (.int q), some (.ref 60), some (.int (nI 0)), none, none]) rfl rfl ?_
    refine x_il1 (pc := 22) rfl rfl ?_
    refine x_ifN_lt (pc := 23) (t := 62) rfl rfl (by omega) ?_
    refine x_il1 (pc := 26) rfl rfl ?_
    refine x_const (pc := 27) (pc' := 28) (.int (nI 3)) rfl rfl rfl rfl ?_
    refine x_cmpN_ge (pc := 28) (t := 62) rfl rfl (by decide) (by decide) (fun c => absurd c (by decide)) (fun _ => ?_)
    refine x_il1 (pc := 31) rfl rfl ?_
    refine x_const (pc := 32) (pc' := 33) (.int (-1)) rfl rfl rfl rfl ?_
    refine x_cmp_lt (pc := 33) (t := 62) rfl rfl rfl (fun c33 => ?_) (fun c33 => ?_)
    · exact absurd c33 (nI_m1lt hp8)
    · refine x_il1 (pc := 36) rfl rfl ?_
      refine x_const (pc := 37) (pc' := 39) (.int (nI 8)) rfl rfl rfl rfl ?_
      refine x_cmpN_ge (pc := 39) (t := 62) rfl rfl (by omega) (by omega) (fun c39 => ?_) (fun c39 => ?_)
      · omega
      · refine x_il2 (pc := 42) rfl rfl ?_
        refine x_ifN_ne (pc := 44) (t := 51) rfl rfl (by decide) (fun c => absurd c (by decide)) (fun _ => ?_)
        refine x_il1 (pc := 47) rfl rfl ?_
        refine x_if_lt (pc := 48) (t := 62) rfl rfl rfl (fun c48 => ?_) (fun c48 => ?_)
        · exact absurd c48 hq0
        · refine x_al2 (pc := 51) rfl rfl ?_
          refine g_60_0 (pc := 53) rfl rfl ?_
          refine g_61_5 (pc := 56) (v := nI l.length) rfl rfl hC.1 ?_
          refine x_ifN_ne (pc := 59) (t := 72) rfl rfl (by omega) (fun c59 => ?_) (fun c59 => ?_)
          · refine x_al2 (pc := 72) rfl rfl ?_
            refine x_il2 (pc := 74) rfl rfl ?_
            refine x_ifN_eq (pc := 76) (t := 85) rfl rfl (by decide) (fun _ => ?_) (fun c => absurd c (by decide))
            refine x_il1 (pc := 85) rfl rfl ?_
            refine x_il2 (pc := 86) rfl rfl ?_
            refine x_ifN_eq (pc := 88) (t := 95) rfl rfl (by decide) (fun _ => ?_) (fun c => absurd c (by decide))
            refine x_il1 (pc := 95) rfl rfl ?_
            refine x_k (pc := 96) rfl rfl rfl ⟨Nat.le_of_ble_eq_true rfl, Nat.le_of_ble_eq_true rfl, Nat.le_of_ble_eq_true rfl⟩ rfl (mq_k (c_43_3 (I := va_up I 28 (nI 0)) (A := A) _ _) ?_)
            show mq 58 99 [some (.ref 1), some (.int (nI 1)), some (.int (nI p)), some (.int q), some (.ref 60), some (.int (nI 0)), none, none] [] (hS n u (va_up (va_up (va_up I 28 (nI 0)) 29 (nI p)) 30 q) A J B 53 60 L xs X) _
            refine x_al1 (pc := 99) rfl rfl ?_
            refine g_1_2 (pc := 100) rfl rfl ?_
            refine x_il1 (pc := 103) rfl rfl ?_
            refine aal (pc := 104) (q := 1) (a := 18) rfl rfl (by decide) rfl ?_
            refine x_al2 (pc := 105) rfl rfl ?_
            refine x_k (pc := 107) rfl rfl rfl ⟨Nat.le_of_ble_eq_true rfl, Nat.le_of_ble_eq_true rfl, Nat.le_of_ble_eq_true rfl⟩ rfl (k_61d_1_60 (I := va_up (va_up (va_up I 28 (nI 0)) 29 (nI p)) 30 q) (A := A) (p := p) (q := q) rfl hp8 rfl hC.1 hl4 hm hm5 hns ?_)
            show mq 58 110 [some (.ref 1), some (.int (nI 1)), some (.int (nI p)), some (.int q), some (.ref 60), some (.int (nI 0)), none, none] [.int (-1)] (hS n u (va_up (va_up (va_up I 28 (nI 0)) 29 (nI p)) 30 q) A J B 53 60 L xs X) _
            refine x_is2 (pc := 110) (ml' := [some (.ref 1), some (.int (nI 1)), some (.int (nI p)), some (.int q), some (.ref 60), some (.int (nI 0)), some (.int (-1)), none]) rfl rfl ?_
            refine x_il2 (pc := 112) rfl rfl ?_
            refine x_if_lt (pc := 114) (t := 120) rfl rfl rfl (fun _ => ?_) (fun c => absurd (by decide) c)
            refine x_al1 (pc := 120) rfl rfl ?_
            refine x_al1 (pc := 121) rfl rfl ?_
            refine g_1_2 (pc := 122) rfl rfl ?_
            refine x_il1 (pc := 125) rfl rfl ?_
            refine aal (pc := 126) (q := 1) (a := 18) rfl rfl (by decide) rfl ?_
            refine x_al2 (pc := 127) rfl rfl ?_
            refine x_k (pc := 129) rfl rfl rfl ⟨Nat.le_of_ble_eq_true rfl, Nat.le_of_ble_eq_true rfl, Nat.le_of_ble_eq_true rfl⟩ rfl (k_62_1_60 (I := va_up (va_up (va_up I 28 (nI 0)) 29 (nI p)) 30 q) (A := A) (p := p) (q := q) rfl hp8 rfl hC.1 hl4 hm hm5 hor ?_)
            show mq 58 132 [some (.ref 1), some (.int (nI 1)), some (.int (nI p)), some (.int q), some (.ref 60), some (.int (nI 0)), some (.int (-1)), none] [] (hS n u (va_up (va_up (va_up I 28 (nI 0)) 29 (nI p)) 30 q) A J B 53 60 L xs X) _
            refine x_al1 (pc := 132) rfl rfl ?_
            refine x_al1 (pc := 133) rfl rfl ?_
            refine g_1_2 (pc := 134) rfl rfl ?_
            refine x_il1 (pc := 137) rfl rfl ?_
            refine aal (pc := 138) (q := 1) (a := 18) rfl rfl (by decide) rfl ?_
            refine x_al2 (pc := 139) rfl rfl ?_
            refine x_k (pc := 141) rfl rfl rfl ⟨Nat.le_of_ble_eq_true rfl, Nat.le_of_ble_eq_true rfl, Nat.le_of_ble_eq_true rfl⟩ rfl (k_63_1_3 (mk := 53) (sn := 60) (I := va_up (va_up (va_up I 28 (nI 0)) 29 (nI p)) 30 q) (A := A) (S := S) (f := f) (N := N) (l := l) (p := nI p) (q := q) (kD_on (kD_mk hD ho) ho (show Fr [29, 30, 28] I (va_up (va_up (va_up I 28 (nI 0)) 29 (nI p)) 30 q) from (Fr_u (Fr_u (Fr_u (Fr_refl _ I) (by decide)) (by decide)) (by decide))) (Fr_refl [] A) (by decide) (by decide)) ho (Or.inl ⟨rfl, rfl⟩) hn hu hcn hc hf hsl hN hNb ⟨rfl, rfl, hC.1, hC.2⟩ hl1 hl4 hroom (fun S6 f6 c6 e6 o6 I6 A6 x6 y6 h6 n6 b6 d6 s6 => ?_) (fun S6 f6 c6 e6 o6 I6 A6 x6 y6 h6 => mK_x rfl (kx S6 f6 c6 e6 o6 I6 A6 (Up_tr (Up_fr (show Fr [29, 30, 28] I (va_up (va_up (va_up I 28 (nI 0)) 29 (nI p)) 30 q) from (Fr_u (Fr_u (Fr_u (Fr_refl _ I) (by decide)) (by decide)) (by decide))) (by decide)) x6) y6 h6)) (fun e6 I6 A6 x6 y6 => mK_x rfl (kr e6 I6 A6 (Fr_cons (Fr_u (Fr_u (Fr_u (Fr_refl _ I) (by decide)) (by decide)) (by decide)) x6 (by decide)) y6 ((x6 28 (by decide)).trans rfl))))
            show mq 58 144 [some (.ref 1), some (.int (nI 1)), some (.int (nI p)), some (.int q), some (.ref 60), some (.int (nI 0)), some (.int (-1)), none] [.int (nI N)] (hS n u I6 A6 J B 53 60 L xs X) _
            refine x_is2 (pc := 144) (ml' := [some (.ref 1), some (.int (nI 1)), some (.int (nI p)), some (.int q), some (.ref 60), some (.int (nI 0)), some (.int (-1)), some (.int (nI N))]) rfl rfl ?_
            refine x_al1 (pc := 146) rfl rfl ?_
            refine g_1_2 (pc := 147) rfl rfl ?_
            refine x_il1 (pc := 150) rfl rfl ?_
            refine aal (pc := 151) (q := 1) (a := 18) rfl rfl (by decide) rfl ?_
            refine x_al2 (pc := 152) rfl rfl ?_
            refine x_il2 (pc := 154) rfl rfl ?_
            refine x_k (pc := 156) rfl rfl rfl ⟨Nat.le_of_ble_eq_true rfl, Nat.le_of_ble_eq_true rfl, Nat.le_of_ble_eq_true rfl⟩ rfl (k_46_1_3 (I := I6) (A := A6) (p := p) (m := (nmb N l).length) (q := q) (o := nI N) b6.1 hp8 b6.2.1 b6.2.2.1 (fun A7 y7 u7 v7 w7 => ?_))
            show mq 58 159 [some (.ref 1), some (.int (nI 1)), some (.int (nI p)), some (.int q), some (.ref 60), some (.int (nI 0)), some (.int (-1)), some (.int (nI N))] [] (hS n u I6 A7 J B 53 60 L xs X) _
            refine x_il2 (pc := 159) rfl rfl ?_
            refine x_ret (pc := 161) rfl rfl ?_
            rw [nmb_len] at v7
            exact kk S6 f6 c6 e6 o6 I6 A7 (Fr_cons (Fr_u (Fr_u (Fr_u (Fr_refl _ _) (by decide)) (by decide)) (by decide)) x6 (by decide)) (Fr_cons (Fr_cons (Fr_refl _ _) y6 (by decide)) y7 (by decide)) (kD_on h6 o6 (Fr_refl [] I6) y7 (by decide) (by decide)) ((x6 28 (by decide)).trans rfl) n6 d6 (fun j hj => by rw [y7 34 (by decide)]; exact s6 j hj) (by rw [u7, y6 35 (by decide)]) (by rw [v7, y6 36 (by decide)]) (by rw [w7, y6 37 (by decide)])
          · omega
  · exact absurd c12 (nI_m1 (by omega))
set_option maxRecDepth 100000 in
set_option maxHeartbeats 4000000 in
theorem k_58a_60_1 {S : DS} {mq0 : Nat} {q : Int32} {l : List R5} (hD : kD mq0 S I A) (ho : dO S = false) (hC : BC 3 I A l) (hl1 : 1 ≤ l.length) (hl4 : l.length ≤ 4) {cn N : Nat} {f : Nat → Nat} (hcn : cn ≤ 16) (hc : I 43 = nI cn) (hf : ∀ k, k < cn → f k < 16) (hsl : ∀ j, j < cn → A 34 j = nI (f j)) (hN : I 45 = nI N) (hNb : N + 4 < 2 ^ 31) (hroom : frS (dD S) 16 0 = -1 ∨ cn < 16) (hn : 77 ≤ n ∧ n < 10000) (hu : u + 6 < 1000000) {Q : mO × mHp → Prop} (kk : ∀ S' f' cn', apS S 1 f cn N (nI 255) (nI 0) (nmb N l) = some (S', f', cn') → dO S' = false → ∀ I' A', Fr [2, 3, 14, 15, 43, 45, 29, 30, 28] I I' → Fr [0, 3, 4, 34, 25] A A' → kD 53 S' I' A' → I' 28 = nI 0 → I' 45 = nI (N + l.length) → I' 43 = nI cn' → (∀ j, j < cn' → A' 34 j = nI (f' j)) → Q (.inl (some (.int (nI N))), hS n u I' A' J B 53 60 L xs X)) (kx : ∀ S' f' cn', apS S 1 f cn N (nI 255) (nI 0) (nmb N l) = some (S', f', cn') → dO S' = true → ∀ I' A', Up 60 I I' → Up 50 A A' → kD 53 S' I' A' → Q (.inr n, hS (n + 1) (u + 6) I' A' J B 53 60 L xs (va_up X n (.inr (9, []))))) (kr : apS S 1 f cn N (nI 255) (nI 0) (nmb N l) = none → ∀ I' A', Fr [14, 29, 30, 28] I I' → Fr [3, 25] A A' → I' 28 = nI 0 → Q (.inr n, hS (n + 1) (u + 6) I' A' J B 53 60 L xs (va_up X n (.inr (11, []))))) : mq 58 0 [some (.ref 1), some (.int (nI 1)), some (.int (-1)), some (.int q), none, none, none, none] [] (hS n u I A J B 60 53 L xs X) Q := by
  refine x_al1 (pc := 0) rfl rfl ?_
  refine x_k (pc := 1) rfl rfl rfl ⟨Nat.le_of_ble_eq_true rfl, Nat.le_of_ble_eq_true rfl, Nat.le_of_ble_eq_true rfl⟩ rfl (k_59_60 (I := I) (A := A) ?_)
  show mq 58 4 [some (.ref 1), some (.int (nI 1)), some (.int (-1)), some (.int q), none, none, none, none] [.ref 60] (hS n u (va_up I 28 (nI 0)) A J B 53 60 L xs X) _
  refine x_as2 (pc := 4) (ml' := [some (.ref 1), some (.int (nI 1)), some (.int (-1)), some (.int q), some (.ref 60), none, none, none]) rfl rfl ?_
  refine x_al1 (pc := 6) rfl rfl ?_
  refine x_k (pc := 7) rfl rfl rfl ⟨Nat.le_of_ble_eq_true rfl, Nat.le_of_ble_eq_true rfl, Nat.le_of_ble_eq_true rfl⟩ rfl (k_60 (I := va_up I 28 (nI 0)) ((show (va_up I 28 (nI 0)) 0 = I 0 from rfl).trans (kD_1 hD ho)) ?_)
  show mq 58 10 [some (.ref 1), some (.int (nI 1)), some (.int (-1)), some (.int q), some (.ref 60), none, none, none] [] (hS n u (va_up I 28 (nI 0)) A J B 53 60 L xs X) _
  refine x_il1 (pc := 10) rfl rfl ?_
  refine x_const (pc := 11) (pc' := 12) (.int (-1)) rfl rfl rfl rfl ?_
  refine x_cmp_ne (pc := 12) (t := 19) rfl rfl rfl (fun c12 => ?_) (fun c12 => ?_)
  · exact absurd rfl c12
  · refine x_const (pc := 15) (pc' := 16) (.int (nI 1)) rfl rfl rfl rfl ?_
    refine x_step (pc := 16) (pc' := 20) rfl rfl rfl rfl ?_
    refine x_is2 (pc := 20) (ml' := [some (.ref 1), some (.int (nI 1)), some (.int (-1)), some (.int q), some (.ref 60), some (.int (nI 1)), none, none]) rfl rfl ?_
    refine x_il1 (pc := 22) rfl rfl ?_
    refine x_ifN_lt (pc := 23) (t := 62) rfl rfl (by omega) ?_
    refine x_il1 (pc := 26) rfl rfl ?_
    refine x_const (pc := 27) (pc' := 28) (.int (nI 3)) rfl rfl rfl rfl ?_
    refine x_cmpN_ge (pc := 28) (t := 62) rfl rfl (by decide) (by decide) (fun c => absurd c (by decide)) (fun _ => ?_)
    refine x_il1 (pc := 31) rfl rfl ?_
    refine x_const (pc := 32) (pc' := 33) (.int (-1)) rfl rfl rfl rfl ?_
    refine x_cmp_lt (pc := 33) (t := 62) rfl rfl rfl (fun c33 => ?_) (fun c33 => ?_)
    · exact absurd c33 (by decide)
    · refine x_il1 (pc := 36) rfl rfl ?_
      refine x_const (pc := 37) (pc' := 39) (.int (nI 8)) rfl rfl rfl rfl ?_
      refine x_cmp_ge (pc := 39) (t := 62) rfl rfl rfl (fun c39 => ?_) (fun c39 => ?_)
      · exact absurd c39 (by decide)
      · refine x_il2 (pc := 42) rfl rfl ?_
        refine x_ifN_ne (pc := 44) (t := 51) rfl rfl (by decide) (fun _ => ?_) (fun c => absurd c (by decide))
        refine x_al2 (pc := 51) rfl rfl ?_
        refine g_60_0 (pc := 53) rfl rfl ?_
        refine g_61_5 (pc := 56) (v := nI l.length) rfl rfl hC.1 ?_
        refine x_ifN_ne (pc := 59) (t := 72) rfl rfl (by omega) (fun c59 => ?_) (fun c59 => ?_)
        · refine x_al2 (pc := 72) rfl rfl ?_
          refine x_il2 (pc := 74) rfl rfl ?_
          refine x_ifN_eq (pc := 76) (t := 85) rfl rfl (by decide) (fun c => absurd c (by decide)) (fun _ => ?_)
          refine x_const (pc := 79) (pc' := 82) (.int (nI 255)) rfl rfl rfl rfl ?_
          refine x_step (pc := 82) (pc' := 86) rfl rfl rfl rfl ?_
          refine x_il2 (pc := 86) rfl rfl ?_
          refine x_ifN_eq (pc := 88) (t := 95) rfl rfl (by decide) (fun c => absurd c (by decide)) (fun _ => ?_)
          refine x_const (pc := 91) (pc' := 92) (.int (nI 0)) rfl rfl rfl rfl ?_
          refine x_step (pc := 92) (pc' := 96) rfl rfl rfl rfl ?_
          refine x_k (pc := 96) rfl rfl rfl ⟨Nat.le_of_ble_eq_true rfl, Nat.le_of_ble_eq_true rfl, Nat.le_of_ble_eq_true rfl⟩ rfl (mq_k (c_43_3 (I := va_up I 28 (nI 0)) (A := A) _ _) ?_)
          show mq 58 99 [some (.ref 1), some (.int (nI 1)), some (.int (-1)), some (.int q), some (.ref 60), some (.int (nI 1)), none, none] [] (hS n u (va_up (va_up (va_up I 28 (nI 0)) 29 (nI 255)) 30 (nI 0)) A J B 53 60 L xs X) _
          refine x_al1 (pc := 99) rfl rfl ?_
          refine g_1_2 (pc := 100) rfl rfl ?_
          refine x_il1 (pc := 103) rfl rfl ?_
          refine aal (pc := 104) (q := 1) (a := 18) rfl rfl (by decide) rfl ?_
          refine x_al2 (pc := 105) rfl rfl ?_
          refine x_k (pc := 107) rfl rfl rfl ⟨Nat.le_of_ble_eq_true rfl, Nat.le_of_ble_eq_true rfl, Nat.le_of_ble_eq_true rfl⟩ rfl (k_61n_1_60 (I := va_up (va_up (va_up I 28 (nI 0)) 29 (nI 255)) 30 (nI 0)) (A := A) rfl ?_)
          show mq 58 110 [some (.ref 1), some (.int (nI 1)), some (.int (-1)), some (.int q), some (.ref 60), some (.int (nI 1)), none, none] [.int (-1)] (hS n u (va_up (va_up (va_up I 28 (nI 0)) 29 (nI 255)) 30 (nI 0)) A J B 53 60 L xs X) _
          refine x_is2 (pc := 110) (ml' := [some (.ref 1), some (.int (nI 1)), some (.int (-1)), some (.int q), some (.ref 60), some (.int (nI 1)), some (.int (-1)), none]) rfl rfl ?_
          refine x_il2 (pc := 112) rfl rfl ?_
          refine x_if_lt (pc := 114) (t := 120) rfl rfl rfl (fun _ => ?_) (fun c => absurd (by decide) c)
          refine x_al1 (pc := 120) rfl rfl ?_
          refine x_al1 (pc := 121) rfl rfl ?_
          refine g_1_2 (pc := 122) rfl rfl ?_
          refine x_il1 (pc := 125) rfl rfl ?_
          refine aal (pc := 126) (q := 1) (a := 18) rfl rfl (by decide) rfl ?_
          refine x_al2 (pc := 127) rfl rfl ?_
          refine x_k (pc := 129) rfl rfl rfl ⟨Nat.le_of_ble_eq_true rfl, Nat.le_of_ble_eq_true rfl, Nat.le_of_ble_eq_true rfl⟩ rfl (k_62n_1_60 (I := va_up (va_up (va_up I 28 (nI 0)) 29 (nI 255)) 30 (nI 0)) (A := A) rfl ?_)
          show mq 58 132 [some (.ref 1), some (.int (nI 1)), some (.int (-1)), some (.int q), some (.ref 60), some (.int (nI 1)), some (.int (-1)), none] [] (hS n u (va_up (va_up (va_up I 28 (nI 0)) 29 (nI 255)) 30 (nI 0)) A J B 53 60 L xs X) _
          refine x_al1 (pc := 132) rfl rfl ?_
          refine x_al1 (pc := 133) rfl rfl ?_
          refine g_1_2 (pc := 134) rfl rfl ?_
          refine x_il1 (pc := 137) rfl rfl ?_
          refine aal (pc := 138) (q := 1) (a := 18) rfl rfl (by decide) rfl ?_
          refine x_al2 (pc := 139) rfl rfl ?_
          refine x_k (pc := 141) rfl rfl rfl ⟨Nat.le_of_ble_eq_true rfl, Nat.le_of_ble_eq_true rfl, Nat.le_of_ble_eq_true rfl⟩ rfl (k_63_1_3 (mk := 53) (sn := 60) (I := va_up (va_up (va_up I 28 (nI 0)) 29 (nI 255)) 30 (nI 0)) (A := A) (S := S) (f := f) (N := N) (l := l) (p := nI 255) (q := nI 0) (kD_on (kD_mk hD ho) ho (show Fr [29, 30, 28] I (va_up (va_up (va_up I 28 (nI 0)) 29 (nI 255)) 30 (nI 0)) from (Fr_u (Fr_u (Fr_u (Fr_refl _ I) (by decide)) (by decide)) (by decide))) (Fr_refl [] A) (by decide) (by decide)) ho (Or.inl ⟨rfl, rfl⟩) hn hu hcn hc hf hsl hN hNb ⟨rfl, rfl, hC.1, hC.2⟩ hl1 hl4 hroom (fun S6 f6 c6 e6 o6 I6 A6 x6 y6 h6 n6 b6 d6 s6 => ?_) (fun S6 f6 c6 e6 o6 I6 A6 x6 y6 h6 => mK_x rfl (kx S6 f6 c6 e6 o6 I6 A6 (Up_tr (Up_fr (show Fr [29, 30, 28] I (va_up (va_up (va_up I 28 (nI 0)) 29 (nI 255)) 30 (nI 0)) from (Fr_u (Fr_u (Fr_u (Fr_refl _ I) (by decide)) (by decide)) (by decide))) (by decide)) x6) y6 h6)) (fun e6 I6 A6 x6 y6 => mK_x rfl (kr e6 I6 A6 (Fr_cons (Fr_u (Fr_u (Fr_u (Fr_refl _ I) (by decide)) (by decide)) (by decide)) x6 (by decide)) y6 ((x6 28 (by decide)).trans rfl))))
          show mq 58 144 [some (.ref 1), some (.int (nI 1)), some (.int (-1)), some (.int q), some (.ref 60), some (.int (nI 1)), some (.int (-1)), none] [.int (nI N)] (hS n u I6 A6 J B 53 60 L xs X) _
          refine x_is2 (pc := 144) (ml' := [some (.ref 1), some (.int (nI 1)), some (.int (-1)), some (.int q), some (.ref 60), some (.int (nI 1)), some (.int (-1)), some (.int (nI N))]) rfl rfl ?_
          refine x_al1 (pc := 146) rfl rfl ?_
          refine g_1_2 (pc := 147) rfl rfl ?_
          refine x_il1 (pc := 150) rfl rfl ?_
          refine aal (pc := 151) (q := 1) (a := 18) rfl rfl (by decide) rfl ?_
          refine x_al2 (pc := 152) rfl rfl ?_
          refine x_il2 (pc := 154) rfl rfl ?_
          refine x_k (pc := 156) rfl rfl rfl ⟨Nat.le_of_ble_eq_true rfl, Nat.le_of_ble_eq_true rfl, Nat.le_of_ble_eq_true rfl⟩ rfl (k_46n_1_3 (I := I6) (A := A6) (p := 255) (o := nI N) b6.1 (by decide) ?_)
          show mq 58 159 [some (.ref 1), some (.int (nI 1)), some (.int (-1)), some (.int q), some (.ref 60), some (.int (nI 1)), some (.int (-1)), some (.int (nI N))] [] (hS n u I6 A6 J B 53 60 L xs X) _
          refine x_il2 (pc := 159) rfl rfl ?_
          refine x_ret (pc := 161) rfl rfl ?_
          exact kk S6 f6 c6 e6 o6 I6 A6 (Fr_cons (Fr_u (Fr_u (Fr_u (Fr_refl _ _) (by decide)) (by decide)) (by decide)) x6 (by decide)) (Fr_cons (Fr_refl _ _) y6 (by decide)) h6 ((x6 28 (by decide)).trans rfl) n6 d6 s6
        · omega
set_option maxRecDepth 100000 in
set_option maxHeartbeats 4000000 in
theorem k_58s_60_2 {S : DS} {mq0 p m : Nat} {q : Int32} {l : List R5} (hD : kD mq0 S I A) (ho : dO S = false) (hC : BC 3 I A l) (hl1 : 1 ≤ l.length) (hl4 : l.length ≤ 4) (hp8 : p < 8) (hq0 : ¬ q < 0) (hm : A 40 p = nI m) (hm5 : m < 5) (hs1 : ¬ m = 0) (hs2 : A 39 p = q) (hs3 : m = l.length) {o : Nat} (ho9 : A 41 p = nI o) (ho31 : o < 2 ^ 31) {Q : mO × mHp → Prop} (kk : Q (.inl (some (.int (A 41 p))), hS n u (va_up (va_up (va_up I 28 (nI 0)) 29 (nI p)) 30 q) A J B 53 60 L xs X)) : mq 58 0 [some (.ref 1), some (.int (nI 2)), some (.int (nI p)), some (.int q), none, none, none, none] [] (hS n u I A J B 60 53 L xs X) Q := by
  refine x_al1 (pc := 0) rfl rfl ?_
  refine x_k (pc := 1) rfl rfl rfl ⟨Nat.le_of_ble_eq_true rfl, Nat.le_of_ble_eq_true rfl, Nat.le_of_ble_eq_true rfl⟩ rfl (k_59_60 (I := I) (A := A) ?_)
  show mq 58 4 [some (.ref 1), some (.int (nI 2)), some (.int (nI p)), some (.int q), none, none, none, none] [.ref 60] (hS n u (va_up I 28 (nI 0)) A J B 53 60 L xs X) _
  refine x_as2 (pc := 4) (ml' := [some (.ref 1), some (.int (nI 2)), some (.int (nI p)), some (.int q), some (.ref 60), none, none, none]) rfl rfl ?_
  refine x_al1 (pc := 6) rfl rfl ?_
  refine x_k (pc := 7) rfl rfl rfl ⟨Nat.le_of_ble_eq_true rfl, Nat.le_of_ble_eq_true rfl, Nat.le_of_ble_eq_true rfl⟩ rfl (k_60 (I := va_up I 28 (nI 0)) ((show (va_up I 28 (nI 0)) 0 = I 0 from rfl).trans (kD_1 hD ho)) ?_)
  show mq 58 10 [some (.ref 1), some (.int (nI 2)), some (.int (nI p)), some (.int q), some (.ref 60), none, none, none] [] (hS n u (va_up I 28 (nI 0)) A J B 53 60 L xs X) _
  refine x_il1 (pc := 10) rfl rfl ?_
  refine x_const (pc := 11) (pc' := 12) (.int (-1)) rfl rfl rfl rfl ?_
  refine x_cmp_ne (pc := 12) (t := 19) rfl rfl rfl (fun c12 => ?_) (fun c12 => ?_)
  · refine x_const (pc := 19) (pc' := 20) (.int (nI 0)) rfl rfl rfl rfl ?_
    refine x_is2 (pc := 20) (ml' := [some (.ref 1), some (.int (nI 2)), some (.int (nI p)), some (.int q), some (.ref 60), some (.int (nI 0)), none, none]) rfl rfl ?_
    refine x_il1 (pc := 22) rfl rfl ?_
    refine x_ifN_lt (pc := 23) (t := 62) rfl rfl (by omega) ?_
    refine x_il1 (pc := 26) rfl rfl ?_
    refine x_const (pc := 27) (pc' := 28) (.int (nI 3)) rfl rfl rfl rfl ?_
    refine x_cmpN_ge (pc := 28) (t := 62) rfl rfl (by decide) (by decide) (fun c => absurd c (by decide)) (fun _ => ?_)
    refine x_il1 (pc := 31) rfl rfl ?_
    refine x_const (pc := 32) (pc' := 33) (.int (-1)) rfl rfl rfl rfl ?_
    refine x_cmp_lt (pc := 33) (t := 62) rfl rfl rfl (fun c33 => ?_) (fun c33 => ?_)
    · exact absurd c33 (nI_m1lt hp8)
    · refine x_il1 (pc := 36) rfl rfl ?_
      refine x_const (pc := 37) (pc' := 39) (.int (nI 8)) rfl rfl rfl rfl ?_
      refine x_cmpN_ge (pc := 39) (t := 62) rfl rfl (by omega) (by omega) (fun c39 => ?_) (fun c39 => ?_)
      · omega
      · refine x_il2 (pc := 42) rfl rfl ?_
        refine x_ifN_ne (pc := 44) (t := 51) rfl rfl (by decide) (fun c => absurd c (by decide)) (fun _ => ?_)
        refine x_il1 (pc := 47) rfl rfl ?_
        refine x_if_lt (pc := 48) (t := 62) rfl rfl rfl (fun c48 => ?_) (fun c48 => ?_)
        · exact absurd c48 hq0
        · refine x_al2 (pc := 51) rfl rfl ?_
          refine g_60_0 (pc := 53) rfl rfl ?_
          refine g_61_5 (pc := 56) (v := nI l.length) rfl rfl hC.1 ?_
          refine x_ifN_ne (pc := 59) (t := 72) rfl rfl (by omega) (fun c59 => ?_) (fun c59 => ?_)
          · refine x_al2 (pc := 72) rfl rfl ?_
            refine x_il2 (pc := 74) rfl rfl ?_
            refine x_ifN_eq (pc := 76) (t := 85) rfl rfl (by decide) (fun _ => ?_) (fun c => absurd c (by decide))
            refine x_il1 (pc := 85) rfl rfl ?_
            refine x_il2 (pc := 86) rfl rfl ?_
            refine x_ifN_eq (pc := 88) (t := 95) rfl rfl (by decide) (fun _ => ?_) (fun c => absurd c (by decide))
            refine x_il1 (pc := 95) rfl rfl ?_
            refine x_k (pc := 96) rfl rfl rfl ⟨Nat.le_of_ble_eq_true rfl, Nat.le_of_ble_eq_true rfl, Nat.le_of_ble_eq_true rfl⟩ rfl (mq_k (c_43_3 (I := va_up I 28 (nI 0)) (A := A) _ _) ?_)
            show mq 58 99 [some (.ref 1), some (.int (nI 2)), some (.int (nI p)), some (.int q), some (.ref 60), some (.int (nI 0)), none, none] [] (hS n u (va_up (va_up (va_up I 28 (nI 0)) 29 (nI p)) 30 q) A J B 53 60 L xs X) _
            refine x_al1 (pc := 99) rfl rfl ?_
            refine g_1_2 (pc := 100) rfl rfl ?_
            refine x_il1 (pc := 103) rfl rfl ?_
            refine aal (pc := 104) (q := 2) (a := 23) rfl rfl (by decide) rfl ?_
            refine x_al2 (pc := 105) rfl rfl ?_
            refine x_k (pc := 107) rfl rfl rfl ⟨Nat.le_of_ble_eq_true rfl, Nat.le_of_ble_eq_true rfl, Nat.le_of_ble_eq_true rfl⟩ rfl (k_61s_2_60 (I := va_up (va_up (va_up I 28 (nI 0)) 29 (nI p)) 30 q) (A := A) (p := p) (q := q) rfl hp8 rfl hC.1 hl4 hm hm5 hs1 hs2 hs3 ?_)
            show mq 58 110 [some (.ref 1), some (.int (nI 2)), some (.int (nI p)), some (.int q), some (.ref 60), some (.int (nI 0)), none, none] [.int (A 41 p)] (hS n u (va_up (va_up (va_up I 28 (nI 0)) 29 (nI p)) 30 q) A J B 53 60 L xs X) _
            refine x_top (y := nI o) (ho9) ?_
            refine x_is2 (pc := 110) (ml' := [some (.ref 1), some (.int (nI 2)), some (.int (nI p)), some (.int q), some (.ref 60), some (.int (nI 0)), some (.int (nI o)), none]) rfl rfl ?_
            refine x_il2 (pc := 112) rfl rfl ?_
            refine x_ifN_lt (pc := 114) (t := 120) rfl rfl (by omega) ?_
            refine x_il2 (pc := 117) rfl rfl ?_
            refine x_ret (pc := 119) rfl rfl ?_
            rw [← ho9]
            exact kk
          · omega
  · exact absurd c12 (nI_m1 (by omega))
set_option maxRecDepth 100000 in
set_option maxHeartbeats 4000000 in
theorem k_58o_60_2 {S : DS} {mq0 p m : Nat} {q : Int32} {l : List R5} (hD : kD mq0 S I A) (ho : dO S = false) (hC : BC 3 I A l) (hl1 : 1 ≤ l.length) (hl4 : l.length ≤ 4) (hp8 : p < 8) (hq0 : ¬ q < 0) (hm : A 40 p = nI m) (hm5 : m < 5) (hns : ¬ (¬ m = 0 ∧ A 39 p = q ∧ m = l.length)) (hm0 : ¬ m = 0) (hor : ¬ A 39 p + nI m = q) (hn : 77 ≤ n ∧ n < 10000) (hu : u + 6 < 1000000) {Q : mO × mHp → Prop} (kk : Q (.inr n, hS (n + 1) (u + 6) (va_up (va_up (va_up I 28 (nI 0)) 29 (nI p)) 30 q) A J B 53 60 L xs (va_up X n (.inr (11, []))))) : mq 58 0 [some (.ref 1), some (.int (nI 2)), some (.int (nI p)), some (.int q), none, none, none, none] [] (hS n u I A J B 60 53 L xs X) Q := by
  refine x_al1 (pc := 0) rfl rfl ?_
  refine x_k (pc := 1) rfl rfl rfl ⟨Nat.le_of_ble_eq_true rfl, Nat.le_of_ble_eq_true rfl, Nat.le_of_ble_eq_true rfl⟩ rfl (k_59_60 (I := I) (A := A) ?_)
  show mq 58 4 [some (.ref 1), some (.int (nI 2)), some (.int (nI p)), some (.int q), none, none, none, none] [.ref 60] (hS n u (va_up I 28 (nI 0)) A J B 53 60 L xs X) _
  refine x_as2 (pc := 4) (ml' := [some (.ref 1), some (.int (nI 2)), some (.int (nI p)), some (.int q), some (.ref 60), none, none, none]) rfl rfl ?_
  refine x_al1 (pc := 6) rfl rfl ?_
  refine x_k (pc := 7) rfl rfl rfl ⟨Nat.le_of_ble_eq_true rfl, Nat.le_of_ble_eq_true rfl, Nat.le_of_ble_eq_true rfl⟩ rfl (k_60 (I := va_up I 28 (nI 0)) ((show (va_up I 28 (nI 0)) 0 = I 0 from rfl).trans (kD_1 hD ho)) ?_)
  show mq 58 10 [some (.ref 1), some (.int (nI 2)), some (.int (nI p)), some (.int q), some (.ref 60), none, none, none] [] (hS n u (va_up I 28 (nI 0)) A J B 53 60 L xs X) _
  refine x_il1 (pc := 10) rfl rfl ?_
  refine x_const (pc := 11) (pc' := 12) (.int (-1)) rfl rfl rfl rfl ?_
  refine x_cmp_ne (pc := 12) (t := 19) rfl rfl rfl (fun c12 => ?_) (fun c12 => ?_)
  · refine x_const (pc := 19) (pc' := 20) (.int (nI 0)) rfl rfl rfl rfl ?_
    refine x_is2 (pc := 20) (ml' := [some (.ref 1), some (.int (nI 2)), some (.int (nI p)), some (.int q), some (.ref 60), some (.int (nI 0)), none, none]) rfl rfl ?_
    refine x_il1 (pc := 22) rfl rfl ?_
    refine x_ifN_lt (pc := 23) (t := 62) rfl rfl (by omega) ?_
    refine x_il1 (pc := 26) rfl rfl ?_
    refine x_const (pc := 27) (pc' := 28) (.int (nI 3)) rfl rfl rfl rfl ?_
    refine x_cmpN_ge (pc := 28) (t := 62) rfl rfl (by decide) (by decide) (fun c => absurd c (by decide)) (fun _ => ?_)
    refine x_il1 (pc := 31) rfl rfl ?_
    refine x_const (pc := 32) (pc' := 33) (.int (-1)) rfl rfl rfl rfl ?_
    refine x_cmp_lt (pc := 33) (t := 62) rfl rfl rfl (fun c33 => ?_) (fun c33 => ?_)
    · exact absurd c33 (nI_m1lt hp8)
    · refine x_il1 (pc := 36) rfl rfl ?_
      refine x_const (pc := 37) (pc' := 39) (.int (nI 8)) rfl rfl rfl rfl ?_
      refine x_cmpN_ge (pc := 39) (t := 62) rfl rfl (by omega) (by omega) (fun c39 => ?_) (fun c39 => ?_)
      · omega
      · refine x_il2 (pc := 42) rfl rfl ?_
        refine x_ifN_ne (pc := 44) (t := 51) rfl rfl (by decide) (fun c => absurd c (by decide)) (fun _ => ?_)
        refine x_il1 (pc := 47) rfl rfl ?_
        refine x_if_lt (pc := 48) (t := 62) rfl rfl rfl (fun c48 => ?_) (fun c48 => ?_)
        · exact absurd c48 hq0
        · refine x_al2 (pc := 51) rfl rfl ?_
          refine g_60_0 (pc := 53) rfl rfl ?_
          refine g_61_5 (pc := 56) (v := nI l.length) rfl rfl hC.1 ?_
          refine x_ifN_ne (pc := 59) (t := 72) rfl rfl (by omega) (fun c59 => ?_) (fun c59 => ?_)
          · refine x_al2 (pc := 72) rfl rfl ?_
            refine x_il2 (pc := 74) rfl rfl ?_
            refine x_ifN_eq (pc := 76) (t := 85) rfl rfl (by decide) (fun _ => ?_) (fun c => absurd c (by decide))
            refine x_il1 (pc := 85) rfl rfl ?_
            refine x_il2 (pc := 86) rfl rfl ?_
            refine x_ifN_eq (pc := 88) (t := 95) rfl rfl (by decide) (fun _ => ?_) (fun c => absurd c (by decide))
            refine x_il1 (pc := 95) rfl rfl ?_
            refine x_k (pc := 96) rfl rfl rfl ⟨Nat.le_of_ble_eq_true rfl, Nat.le_of_ble_eq_true rfl, Nat.le_of_ble_eq_true rfl⟩ rfl (mq_k (c_43_3 (I := va_up I 28 (nI 0)) (A := A) _ _) ?_)
            show mq 58 99 [some (.ref 1), some (.int (nI 2)), some (.int (nI p)), some (.int q), some (.ref 60), some (.int (nI 0)), none, none] [] (hS n u (va_up (va_up (va_up I 28 (nI 0)) 29 (nI p)) 30 q) A J B 53 60 L xs X) _
            refine x_al1 (pc := 99) rfl rfl ?_
            refine g_1_2 (pc := 100) rfl rfl ?_
            refine x_il1 (pc := 103) rfl rfl ?_
            refine aal (pc := 104) (q := 2) (a := 23) rfl rfl (by decide) rfl ?_
            refine x_al2 (pc := 105) rfl rfl ?_
            refine x_k (pc := 107) rfl rfl rfl ⟨Nat.le_of_ble_eq_true rfl, Nat.le_of_ble_eq_true rfl, Nat.le_of_ble_eq_true rfl⟩ rfl (k_61d_2_60 (I := va_up (va_up (va_up I 28 (nI 0)) 29 (nI p)) 30 q) (A := A) (p := p) (q := q) rfl hp8 rfl hC.1 hl4 hm hm5 hns ?_)
            show mq 58 110 [some (.ref 1), some (.int (nI 2)), some (.int (nI p)), some (.int q), some (.ref 60), some (.int (nI 0)), none, none] [.int (-1)] (hS n u (va_up (va_up (va_up I 28 (nI 0)) 29 (nI p)) 30 q) A J B 53 60 L xs X) _
            refine x_is2 (pc := 110) (ml' := [some (.ref 1), some (.int (nI 2)), some (.int (nI p)), some (.int q), some (.ref 60), some (.int (nI 0)), some (.int (-1)), none]) rfl rfl ?_
            refine x_il2 (pc := 112) rfl rfl ?_
            refine x_if_lt (pc := 114) (t := 120) rfl rfl rfl (fun _ => ?_) (fun c => absurd (by decide) c)
            refine x_al1 (pc := 120) rfl rfl ?_
            refine x_al1 (pc := 121) rfl rfl ?_
            refine g_1_2 (pc := 122) rfl rfl ?_
            refine x_il1 (pc := 125) rfl rfl ?_
            refine aal (pc := 126) (q := 2) (a := 23) rfl rfl (by decide) rfl ?_
            refine x_al2 (pc := 127) rfl rfl ?_
            refine x_k (pc := 129) rfl rfl rfl ⟨Nat.le_of_ble_eq_true rfl, Nat.le_of_ble_eq_true rfl, Nat.le_of_ble_eq_true rfl⟩ rfl (k_62x_2_60 (I := va_up (va_up (va_up I 28 (nI 0)) 29 (nI p)) 30 q) (A := A) (p := p) (q := q) rfl hp8 rfl hC.1 hl4 hm hm5 hm0 hor hn hu (mK_x rfl kk))
          · omega
  · exact absurd c12 (nI_m1 (by omega))
set_option maxRecDepth 100000 in
set_option maxHeartbeats 4000000 in
theorem k_58p_60_2 {S : DS} {mq0 p m : Nat} {q : Int32} {l : List R5} (hD : kD mq0 S I A) (ho : dO S = false) (hC : BC 3 I A l) (hl1 : 1 ≤ l.length) (hl4 : l.length ≤ 4) (hp8 : p < 8) (hq0 : ¬ q < 0) (hm : A 40 p = nI m) (hm5 : m < 5) (hns : ¬ (¬ m = 0 ∧ A 39 p = q ∧ m = l.length)) (hor : m = 0 ∨ A 39 p + nI m = q) {cn N : Nat} {f : Nat → Nat} (hcn : cn ≤ 16) (hc : I 46 = nI cn) (hf : ∀ k, k < cn → f k < 16) (hsl : ∀ j, j < cn → A 38 j = nI (f j)) (hN : I 48 = nI N) (hNb : N + 4 < 2 ^ 31) (hroom : frS (dD S) 16 0 = -1 ∨ cn < 16) (hn : 77 ≤ n ∧ n < 10000) (hu : u + 6 < 1000000) {Q : mO × mHp → Prop} (kk : ∀ S' f' cn', apS S 2 f cn N (nI p) q (nmb N l) = some (S', f', cn') → dO S' = false → ∀ I' A', Fr [2, 3, 14, 15, 46, 48, 29, 30, 28] I I' → Fr [0, 3, 4, 38, 25, 39, 40, 41] A A' → kD 53 S' I' A' → I' 28 = nI 0 → I' 48 = nI (N + l.length) → I' 46 = nI cn' → (∀ j, j < cn' → A' 38 j = nI (f' j)) → A' 39 = upd (A 39) p q → A' 40 = upd (A 40) p (nI l.length) → A' 41 = upd (A 41) p (nI N) → Q (.inl (some (.int (nI N))), hS n u I' A' J B 53 60 L xs X)) (kx : ∀ S' f' cn', apS S 2 f cn N (nI p) q (nmb N l) = some (S', f', cn') → dO S' = true → ∀ I' A', Up 60 I I' → Up 50 A A' → kD 53 S' I' A' → Q (.inr n, hS (n + 1) (u + 6) I' A' J B 53 60 L xs (va_up X n (.inr (9, []))))) (kr : apS S 2 f cn N (nI p) q (nmb N l) = none → ∀ I' A', Fr [14, 29, 30, 28] I I' → Fr [3, 25] A A' → I' 28 = nI 0 → Q (.inr n, hS (n + 1) (u + 6) I' A' J B 53 60 L xs (va_up X n (.inr (11, []))))) : mq 58 0 [some (.ref 1), some (.int (nI 2)), some (.int (nI p)), some (.int q), none, none, none, none] [] (hS n u I A J B 60 53 L xs X) Q := by
  refine x_al1 (pc := 0) rfl rfl ?_
  refine x_k (pc := 1) rfl rfl rfl ⟨Nat.le_of_ble_eq_true rfl, Nat.le_of_ble_eq_true rfl, Nat.le_of_ble_eq_true rfl⟩ rfl (k_59_60 (I := I) (A := A) ?_)
  show mq 58 4 [some (.ref 1), some (.int (nI 2)), some (.int (nI p)), some (.int q), none, none, none, none] [.ref 60] (hS n u (va_up I 28 (nI 0)) A J B 53 60 L xs X) _
  refine x_as2 (pc := 4) (ml' := [some (.ref 1), some (.int (nI 2)), some (.int (nI p)), some (.int q), some (.ref 60), none, none, none]) rfl rfl ?_
  refine x_al1 (pc := 6) rfl rfl ?_
  refine x_k (pc := 7) rfl rfl rfl ⟨Nat.le_of_ble_eq_true rfl, Nat.le_of_ble_eq_true rfl, Nat.le_of_ble_eq_true rfl⟩ rfl (k_60 (I := va_up I 28 (nI 0)) ((show (va_up I 28 (nI 0)) 0 = I 0 from rfl).trans (kD_1 hD ho)) ?_)
  show mq 58 10 [some (.ref 1), some (.int (nI 2)), some (.int (nI p)), some (.int q), some (.ref 60), none, none, none] [] (hS n u (va_up I 28 (nI 0)) A J B 53 60 L xs X) _
  refine x_il1 (pc := 10) rfl rfl ?_
  refine x_const (pc := 11) (pc' := 12) (.int (-1)) rfl rfl rfl rfl ?_
  refine x_cmp_ne (pc := 12) (t := 19) rfl rfl rfl (fun c12 => ?_) (fun c12 => ?_)
  · refine x_const (pc := 19) (pc' := 20) (.int (nI 0)) rfl rfl rfl rfl ?_
    refine x_is2 (pc := 20) (ml' := [some (.ref 1), some (.int (nI 2)), some (.int (nI p)), some (.int q), some (.ref 60), some (.int (nI 0)), none, none]) rfl rfl ?_
    refine x_il1 (pc := 22) rfl rfl ?_
    refine x_ifN_lt (pc := 23) (t := 62) rfl rfl (by omega) ?_
    refine x_il1 (pc := 26) rfl rfl ?_
    refine x_const (pc := 27) (pc' := 28) (.int (nI 3)) rfl rfl rfl rfl ?_
    refine x_cmpN_ge (pc := 28) (t := 62) rfl rfl (by decide) (by decide) (fun c => absurd c (by decide)) (fun _ => ?_)
    refine x_il1 (pc := 31) rfl rfl ?_
    refine x_const (pc := 32) (pc' := 33) (.int (-1)) rfl rfl rfl rfl ?_
    refine x_cmp_lt (pc := 33) (t := 62) rfl rfl rfl (fun c33 => ?_) (fun c33 => ?_)
    · exact absurd c33 (nI_m1lt hp8)
    · refine x_il1 (pc := 36) rfl rfl ?_
      refine x_const (pc := 37) (pc' := 39) (.int (nI 8)) rfl rfl rfl rfl ?_
      refine x_cmpN_ge (pc := 39) (t := 62) rfl rfl (by omega) (by omega) (fun c39 => ?_) (fun c39 => ?_)
      · omega
      · refine x_il2 (pc := 42) rfl rfl ?_
        refine x_ifN_ne (pc := 44) (t := 51) rfl rfl (by decide) (fun c => absurd c (by decide)) (fun _ => ?_)
        refine x_il1 (pc := 47) rfl rfl ?_
        refine x_if_lt (pc := 48) (t := 62) rfl rfl rfl (fun c48 => ?_) (fun c48 => ?_)
        · exact absurd c48 hq0
        · refine x_al2 (pc := 51) rfl rfl ?_
          refine g_60_0 (pc := 53) rfl rfl ?_
          refine g_61_5 (pc := 56) (v := nI l.length) rfl rfl hC.1 ?_
          refine x_ifN_ne (pc := 59) (t := 72) rfl rfl (by omega) (fun c59 => ?_) (fun c59 => ?_)
          · refine x_al2 (pc := 72) rfl rfl ?_
            refine x_il2 (pc := 74) rfl rfl ?_
            refine x_ifN_eq (pc := 76) (t := 85) rfl rfl (by decide) (fun _ => ?_) (fun c => absurd c (by decide))
            refine x_il1 (pc := 85) rfl rfl ?_
            refine x_il2 (pc := 86) rfl rfl ?_
            refine x_ifN_eq (pc := 88) (t := 95) rfl rfl (by decide) (fun _ => ?_) (fun c => absurd c (by decide))
            refine x_il1 (pc := 95) rfl rfl ?_
            refine x_k (pc := 96) rfl rfl rfl ⟨Nat.le_of_ble_eq_true rfl, Nat.le_of_ble_eq_true rfl, Nat.le_of_ble_eq_true rfl⟩ rfl (mq_k (c_43_3 (I := va_up I 28 (nI 0)) (A := A) _ _) ?_)
            show mq 58 99 [some (.ref 1), some (.int (nI 2)), some (.int (nI p)), some (.int q), some (.ref 60), some (.int (nI 0)), none, none] [] (hS n u (va_up (va_up (va_up I 28 (nI 0)) 29 (nI p)) 30 q) A J B 53 60 L xs X) _
            refine x_al1 (pc := 99) rfl rfl ?_
            refine g_1_2 (pc := 100) rfl rfl ?_
            refine x_il1 (pc := 103) rfl rfl ?_
            refine aal (pc := 104) (q := 2) (a := 23) rfl rfl (by decide) rfl ?_
            refine x_al2 (pc := 105) rfl rfl ?_
            refine x_k (pc := 107) rfl rfl rfl ⟨Nat.le_of_ble_eq_true rfl, Nat.le_of_ble_eq_true rfl, Nat.le_of_ble_eq_true rfl⟩ rfl (k_61d_2_60 (I := va_up (va_up (va_up I 28 (nI 0)) 29 (nI p)) 30 q) (A := A) (p := p) (q := q) rfl hp8 rfl hC.1 hl4 hm hm5 hns ?_)
            show mq 58 110 [some (.ref 1), some (.int (nI 2)), some (.int (nI p)), some (.int q), some (.ref 60), some (.int (nI 0)), none, none] [.int (-1)] (hS n u (va_up (va_up (va_up I 28 (nI 0)) 29 (nI p)) 30 q) A J B 53 60 L xs X) _
            refine x_is2 (pc := 110) (ml' := [some (.ref 1), some (.int (nI 2)), some (.int (nI p)), some (.int q), some (.ref 60), some (.int (nI 0)), some (.int (-1)), none]) rfl rfl ?_
            refine x_il2 (pc := 112) rfl rfl ?_
            refine x_if_lt (pc := 114) (t := 120) rfl rfl rfl (fun _ => ?_) (fun c => absurd (by decide) c)
            refine x_al1 (pc := 120) rfl rfl ?_
            refine x_al1 (pc := 121) rfl rfl ?_
            refine g_1_2 (pc := 122) rfl rfl ?_
            refine x_il1 (pc := 125) rfl rfl ?_
            refine aal (pc := 126) (q := 2) (a := 23) rfl rfl (by decide) rfl ?_
            refine x_al2 (pc := 127) rfl rfl ?_
            refine x_k (pc := 129) rfl rfl rfl ⟨Nat.le_of_ble_eq_true rfl, Nat.le_of_ble_eq_true rfl, Nat.le_of_ble_eq_true rfl⟩ rfl (k_62_2_60 (I := va_up (va_up (va_up I 28 (nI 0)) 29 (nI p)) 30 q) (A := A) (p := p) (q := q) rfl hp8 rfl hC.1 hl4 hm hm5 hor ?_)
            show mq 58 132 [some (.ref 1), some (.int (nI 2)), some (.int (nI p)), some (.int q), some (.ref 60), some (.int (nI 0)), some (.int (-1)), none] [] (hS n u (va_up (va_up (va_up I 28 (nI 0)) 29 (nI p)) 30 q) A J B 53 60 L xs X) _
            refine x_al1 (pc := 132) rfl rfl ?_
            refine x_al1 (pc := 133) rfl rfl ?_
            refine g_1_2 (pc := 134) rfl rfl ?_
            refine x_il1 (pc := 137) rfl rfl ?_
            refine aal (pc := 138) (q := 2) (a := 23) rfl rfl (by decide) rfl ?_
            refine x_al2 (pc := 139) rfl rfl ?_
            refine x_k (pc := 141) rfl rfl rfl ⟨Nat.le_of_ble_eq_true rfl, Nat.le_of_ble_eq_true rfl, Nat.le_of_ble_eq_true rfl⟩ rfl (k_63_2_3 (mk := 53) (sn := 60) (I := va_up (va_up (va_up I 28 (nI 0)) 29 (nI p)) 30 q) (A := A) (S := S) (f := f) (N := N) (l := l) (p := nI p) (q := q) (kD_on (kD_mk hD ho) ho (show Fr [29, 30, 28] I (va_up (va_up (va_up I 28 (nI 0)) 29 (nI p)) 30 q) from (Fr_u (Fr_u (Fr_u (Fr_refl _ I) (by decide)) (by decide)) (by decide))) (Fr_refl [] A) (by decide) (by decide)) ho (Or.inl ⟨rfl, rfl⟩) hn hu hcn hc hf hsl hN hNb ⟨rfl, rfl, hC.1, hC.2⟩ hl1 hl4 hroom (fun S6 f6 c6 e6 o6 I6 A6 x6 y6 h6 n6 b6 d6 s6 => ?_) (fun S6 f6 c6 e6 o6 I6 A6 x6 y6 h6 => mK_x rfl (kx S6 f6 c6 e6 o6 I6 A6 (Up_tr (Up_fr (show Fr [29, 30, 28] I (va_up (va_up (va_up I 28 (nI 0)) 29 (nI p)) 30 q) from (Fr_u (Fr_u (Fr_u (Fr_refl _ I) (by decide)) (by decide)) (by decide))) (by decide)) x6) y6 h6)) (fun e6 I6 A6 x6 y6 => mK_x rfl (kr e6 I6 A6 (Fr_cons (Fr_u (Fr_u (Fr_u (Fr_refl _ I) (by decide)) (by decide)) (by decide)) x6 (by decide)) y6 ((x6 28 (by decide)).trans rfl))))
            show mq 58 144 [some (.ref 1), some (.int (nI 2)), some (.int (nI p)), some (.int q), some (.ref 60), some (.int (nI 0)), some (.int (-1)), none] [.int (nI N)] (hS n u I6 A6 J B 53 60 L xs X) _
            refine x_is2 (pc := 144) (ml' := [some (.ref 1), some (.int (nI 2)), some (.int (nI p)), some (.int q), some (.ref 60), some (.int (nI 0)), some (.int (-1)), some (.int (nI N))]) rfl rfl ?_
            refine x_al1 (pc := 146) rfl rfl ?_
            refine g_1_2 (pc := 147) rfl rfl ?_
            refine x_il1 (pc := 150) rfl rfl ?_
            refine aal (pc := 151) (q := 2) (a := 23) rfl rfl (by decide) rfl ?_
            refine x_al2 (pc := 152) rfl rfl ?_
            refine x_il2 (pc := 154) rfl rfl ?_
            refine x_k (pc := 156) rfl rfl rfl ⟨Nat.le_of_ble_eq_true rfl, Nat.le_of_ble_eq_true rfl, Nat.le_of_ble_eq_true rfl⟩ rfl (k_46_2_3 (I := I6) (A := A6) (p := p) (m := (nmb N l).length) (q := q) (o := nI N) b6.1 hp8 b6.2.1 b6.2.2.1 (fun A7 y7 u7 v7 w7 => ?_))
            show mq 58 159 [some (.ref 1), some (.int (nI 2)), some (.int (nI p)), some (.int q), some (.ref 60), some (.int (nI 0)), some (.int (-1)), some (.int (nI N))] [] (hS n u I6 A7 J B 53 60 L xs X) _
            refine x_il2 (pc := 159) rfl rfl ?_
            refine x_ret (pc := 161) rfl rfl ?_
            rw [nmb_len] at v7
            exact kk S6 f6 c6 e6 o6 I6 A7 (Fr_cons (Fr_u (Fr_u (Fr_u (Fr_refl _ _) (by decide)) (by decide)) (by decide)) x6 (by decide)) (Fr_cons (Fr_cons (Fr_refl _ _) y6 (by decide)) y7 (by decide)) (kD_on h6 o6 (Fr_refl [] I6) y7 (by decide) (by decide)) ((x6 28 (by decide)).trans rfl) n6 d6 (fun j hj => by rw [y7 38 (by decide)]; exact s6 j hj) (by rw [u7, y6 39 (by decide)]) (by rw [v7, y6 40 (by decide)]) (by rw [w7, y6 41 (by decide)])
          · omega
  · exact absurd c12 (nI_m1 (by omega))
set_option maxRecDepth 100000 in
set_option maxHeartbeats 4000000 in
theorem k_58a_60_2 {S : DS} {mq0 : Nat} {q : Int32} {l : List R5} (hD : kD mq0 S I A) (ho : dO S = false) (hC : BC 3 I A l) (hl1 : 1 ≤ l.length) (hl4 : l.length ≤ 4) {cn N : Nat} {f : Nat → Nat} (hcn : cn ≤ 16) (hc : I 46 = nI cn) (hf : ∀ k, k < cn → f k < 16) (hsl : ∀ j, j < cn → A 38 j = nI (f j)) (hN : I 48 = nI N) (hNb : N + 4 < 2 ^ 31) (hroom : frS (dD S) 16 0 = -1 ∨ cn < 16) (hn : 77 ≤ n ∧ n < 10000) (hu : u + 6 < 1000000) {Q : mO × mHp → Prop} (kk : ∀ S' f' cn', apS S 2 f cn N (nI 255) (nI 0) (nmb N l) = some (S', f', cn') → dO S' = false → ∀ I' A', Fr [2, 3, 14, 15, 46, 48, 29, 30, 28] I I' → Fr [0, 3, 4, 38, 25] A A' → kD 53 S' I' A' → I' 28 = nI 0 → I' 48 = nI (N + l.length) → I' 46 = nI cn' → (∀ j, j < cn' → A' 38 j = nI (f' j)) → Q (.inl (some (.int (nI N))), hS n u I' A' J B 53 60 L xs X)) (kx : ∀ S' f' cn', apS S 2 f cn N (nI 255) (nI 0) (nmb N l) = some (S', f', cn') → dO S' = true → ∀ I' A', Up 60 I I' → Up 50 A A' → kD 53 S' I' A' → Q (.inr n, hS (n + 1) (u + 6) I' A' J B 53 60 L xs (va_up X n (.inr (9, []))))) (kr : apS S 2 f cn N (nI 255) (nI 0) (nmb N l) = none → ∀ I' A', Fr [14, 29, 30, 28] I I' → Fr [3, 25] A A' → I' 28 = nI 0 → Q (.inr n, hS (n + 1) (u + 6) I' A' J B 53 60 L xs (va_up X n (.inr (11, []))))) : mq 58 0 [some (.ref 1), some (.int (nI 2)), some (.int (-1)), some (.int q), none, none, none, none] [] (hS n u I A J B 60 53 L xs X) Q := by
  refine x_al1 (pc := 0) rfl rfl ?_
  refine x_k (pc := 1) rfl rfl rfl ⟨Nat.le_of_ble_eq_true rfl, Nat.le_of_ble_eq_true rfl, Nat.le_of_ble_eq_true rfl⟩ rfl (k_59_60 (I := I) (A := A) ?_)
  show mq 58 4 [some (.ref 1), some (.int (nI 2)), some (.int (-1)), some (.int q), none, none, none, none] [.ref 60] (hS n u (va_up I 28 (nI 0)) A J B 53 60 L xs X) _
  refine x_as2 (pc := 4) (ml' := [some (.ref 1), some (.int (nI 2)), some (.int (-1)), some (.int q), some (.ref 60), none, none, none]) rfl rfl ?_
  refine x_al1 (pc := 6) rfl rfl ?_
  refine x_k (pc := 7) rfl rfl rfl ⟨Nat.le_of_ble_eq_true rfl, Nat.le_of_ble_eq_true rfl, Nat.le_of_ble_eq_true rfl⟩ rfl (k_60 (I := va_up I 28 (nI 0)) ((show (va_up I 28 (nI 0)) 0 = I 0 from rfl).trans (kD_1 hD ho)) ?_)
  show mq 58 10 [some (.ref 1), some (.int (nI 2)), some (.int (-1)), some (.int q), some (.ref 60), none, none, none] [] (hS n u (va_up I 28 (nI 0)) A J B 53 60 L xs X) _
  refine x_il1 (pc := 10) rfl rfl ?_
  refine x_const (pc := 11) (pc' := 12) (.int (-1)) rfl rfl rfl rfl ?_
  refine x_cmp_ne (pc := 12) (t := 19) rfl rfl rfl (fun c12 => ?_) (fun c12 => ?_)
  · exact absurd rfl c12
  · refine x_const (pc := 15) (pc' := 16) (.int (nI 1)) rfl rfl rfl rfl ?_
    refine x_step (pc := 16) (pc' := 20) rfl rfl rfl rfl ?_
    refine x_is2 (pc := 20) (ml' := [some (.ref 1), some (.int (nI 2)), some (.int (-1)), some (.int q), some (.ref 60), some (.int (nI 1)), none, none]) rfl rfl ?_
    refine x_il1 (pc := 22) rfl rfl ?_
    refine x_ifN_lt (pc := 23) (t := 62) rfl rfl (by omega) ?_
    refine x_il1 (pc := 26) rfl rfl ?_
    refine x_const (pc := 27) (pc' := 28) (.int (nI 3)) rfl rfl rfl rfl ?_
    refine x_cmpN_ge (pc := 28) (t := 62) rfl rfl (by decide) (by decide) (fun c => absurd c (by decide)) (fun _ => ?_)
    refine x_il1 (pc := 31) rfl rfl ?_
    refine x_const (pc := 32) (pc' := 33) (.int (-1)) rfl rfl rfl rfl ?_
    refine x_cmp_lt (pc := 33) (t := 62) rfl rfl rfl (fun c33 => ?_) (fun c33 => ?_)
    · exact absurd c33 (by decide)
    · refine x_il1 (pc := 36) rfl rfl ?_
      refine x_const (pc := 37) (pc' := 39) (.int (nI 8)) rfl rfl rfl rfl ?_
      refine x_cmp_ge (pc := 39) (t := 62) rfl rfl rfl (fun c39 => ?_) (fun c39 => ?_)
      · exact absurd c39 (by decide)
      · refine x_il2 (pc := 42) rfl rfl ?_
        refine x_ifN_ne (pc := 44) (t := 51) rfl rfl (by decide) (fun _ => ?_) (fun c => absurd c (by decide))
        refine x_al2 (pc := 51) rfl rfl ?_
        refine g_60_0 (pc := 53) rfl rfl ?_
        refine g_61_5 (pc := 56) (v := nI l.length) rfl rfl hC.1 ?_
        refine x_ifN_ne (pc := 59) (t := 72) rfl rfl (by omega) (fun c59 => ?_) (fun c59 => ?_)
        · refine x_al2 (pc := 72) rfl rfl ?_
          refine x_il2 (pc := 74) rfl rfl ?_
          refine x_ifN_eq (pc := 76) (t := 85) rfl rfl (by decide) (fun c => absurd c (by decide)) (fun _ => ?_)
          refine x_const (pc := 79) (pc' := 82) (.int (nI 255)) rfl rfl rfl rfl ?_
          refine x_step (pc := 82) (pc' := 86) rfl rfl rfl rfl ?_
          refine x_il2 (pc := 86) rfl rfl ?_
          refine x_ifN_eq (pc := 88) (t := 95) rfl rfl (by decide) (fun c => absurd c (by decide)) (fun _ => ?_)
          refine x_const (pc := 91) (pc' := 92) (.int (nI 0)) rfl rfl rfl rfl ?_
          refine x_step (pc := 92) (pc' := 96) rfl rfl rfl rfl ?_
          refine x_k (pc := 96) rfl rfl rfl ⟨Nat.le_of_ble_eq_true rfl, Nat.le_of_ble_eq_true rfl, Nat.le_of_ble_eq_true rfl⟩ rfl (mq_k (c_43_3 (I := va_up I 28 (nI 0)) (A := A) _ _) ?_)
          show mq 58 99 [some (.ref 1), some (.int (nI 2)), some (.int (-1)), some (.int q), some (.ref 60), some (.int (nI 1)), none, none] [] (hS n u (va_up (va_up (va_up I 28 (nI 0)) 29 (nI 255)) 30 (nI 0)) A J B 53 60 L xs X) _
          refine x_al1 (pc := 99) rfl rfl ?_
          refine g_1_2 (pc := 100) rfl rfl ?_
          refine x_il1 (pc := 103) rfl rfl ?_
          refine aal (pc := 104) (q := 2) (a := 23) rfl rfl (by decide) rfl ?_
          refine x_al2 (pc := 105) rfl rfl ?_
          refine x_k (pc := 107) rfl rfl rfl ⟨Nat.le_of_ble_eq_true rfl, Nat.le_of_ble_eq_true rfl, Nat.le_of_ble_eq_true rfl⟩ rfl (k_61n_2_60 (I := va_up (va_up (va_up I 28 (nI 0)) 29 (nI 255)) 30 (nI 0)) (A := A) rfl ?_)
          show mq 58 110 [some (.ref 1), some (.int (nI 2)), some (.int (-1)), some (.int q), some (.ref 60), some (.int (nI 1)), none, none] [.int (-1)] (hS n u (va_up (va_up (va_up I 28 (nI 0)) 29 (nI 255)) 30 (nI 0)) A J B 53 60 L xs X) _
          refine x_is2 (pc := 110) (ml' := [some (.ref 1), some (.int (nI 2)), some (.int (-1)), some (.int q), some (.ref 60), some (.int (nI 1)), some (.int (-1)), none]) rfl rfl ?_
          refine x_il2 (pc := 112) rfl rfl ?_
          refine x_if_lt (pc := 114) (t := 120) rfl rfl rfl (fun _ => ?_) (fun c => absurd (by decide) c)
          refine x_al1 (pc := 120) rfl rfl ?_
          refine x_al1 (pc := 121) rfl rfl ?_
          refine g_1_2 (pc := 122) rfl rfl ?_
          refine x_il1 (pc := 125) rfl rfl ?_
          refine aal (pc := 126) (q := 2) (a := 23) rfl rfl (by decide) rfl ?_
          refine x_al2 (pc := 127) rfl rfl ?_
          refine x_k (pc := 129) rfl rfl rfl ⟨Nat.le_of_ble_eq_true rfl, Nat.le_of_ble_eq_true rfl, Nat.le_of_ble_eq_true rfl⟩ rfl (k_62n_2_60 (I := va_up (va_up (va_up I 28 (nI 0)) 29 (nI 255)) 30 (nI 0)) (A := A) rfl ?_)
          show mq 58 132 [some (.ref 1), some (.int (nI 2)), some (.int (-1)), some (.int q), some (.ref 60), some (.int (nI 1)), some (.int (-1)), none] [] (hS n u (va_up (va_up (va_up I 28 (nI 0)) 29 (nI 255)) 30 (nI 0)) A J B 53 60 L xs X) _
          refine x_al1 (pc := 132) rfl rfl ?_
          refine x_al1 (pc := 133) rfl rfl ?_
          refine g_1_2 (pc := 134) rfl rfl ?_
          refine x_il1 (pc := 137) rfl rfl ?_
          refine aal (pc := 138) (q := 2) (a := 23) rfl rfl (by decide) rfl ?_
          refine x_al2 (pc := 139) rfl rfl ?_
          refine x_k (pc := 141) rfl rfl rfl ⟨Nat.le_of_ble_eq_true rfl, Nat.le_of_ble_eq_true rfl, Nat.le_of_ble_eq_true rfl⟩ rfl (k_63_2_3 (mk := 53) (sn := 60) (I := va_up (va_up (va_up I 28 (nI 0)) 29 (nI 255)) 30 (nI 0)) (A := A) (S := S) (f := f) (N := N) (l := l) (p := nI 255) (q := nI 0) (kD_on (kD_mk hD ho) ho (show Fr [29, 30, 28] I (va_up (va_up (va_up I 28 (nI 0)) 29 (nI 255)) 30 (nI 0)) from (Fr_u (Fr_u (Fr_u (Fr_refl _ I) (by decide)) (by decide)) (by decide))) (Fr_refl [] A) (by decide) (by decide)) ho (Or.inl ⟨rfl, rfl⟩) hn hu hcn hc hf hsl hN hNb ⟨rfl, rfl, hC.1, hC.2⟩ hl1 hl4 hroom (fun S6 f6 c6 e6 o6 I6 A6 x6 y6 h6 n6 b6 d6 s6 => ?_) (fun S6 f6 c6 e6 o6 I6 A6 x6 y6 h6 => mK_x rfl (kx S6 f6 c6 e6 o6 I6 A6 (Up_tr (Up_fr (show Fr [29, 30, 28] I (va_up (va_up (va_up I 28 (nI 0)) 29 (nI 255)) 30 (nI 0)) from (Fr_u (Fr_u (Fr_u (Fr_refl _ I) (by decide)) (by decide)) (by decide))) (by decide)) x6) y6 h6)) (fun e6 I6 A6 x6 y6 => mK_x rfl (kr e6 I6 A6 (Fr_cons (Fr_u (Fr_u (Fr_u (Fr_refl _ I) (by decide)) (by decide)) (by decide)) x6 (by decide)) y6 ((x6 28 (by decide)).trans rfl))))
          show mq 58 144 [some (.ref 1), some (.int (nI 2)), some (.int (-1)), some (.int q), some (.ref 60), some (.int (nI 1)), some (.int (-1)), none] [.int (nI N)] (hS n u I6 A6 J B 53 60 L xs X) _
          refine x_is2 (pc := 144) (ml' := [some (.ref 1), some (.int (nI 2)), some (.int (-1)), some (.int q), some (.ref 60), some (.int (nI 1)), some (.int (-1)), some (.int (nI N))]) rfl rfl ?_
          refine x_al1 (pc := 146) rfl rfl ?_
          refine g_1_2 (pc := 147) rfl rfl ?_
          refine x_il1 (pc := 150) rfl rfl ?_
          refine aal (pc := 151) (q := 2) (a := 23) rfl rfl (by decide) rfl ?_
          refine x_al2 (pc := 152) rfl rfl ?_
          refine x_il2 (pc := 154) rfl rfl ?_
          refine x_k (pc := 156) rfl rfl rfl ⟨Nat.le_of_ble_eq_true rfl, Nat.le_of_ble_eq_true rfl, Nat.le_of_ble_eq_true rfl⟩ rfl (k_46n_2_3 (I := I6) (A := A6) (p := 255) (o := nI N) b6.1 (by decide) ?_)
          show mq 58 159 [some (.ref 1), some (.int (nI 2)), some (.int (-1)), some (.int q), some (.ref 60), some (.int (nI 1)), some (.int (-1)), some (.int (nI N))] [] (hS n u I6 A6 J B 53 60 L xs X) _
          refine x_il2 (pc := 159) rfl rfl ?_
          refine x_ret (pc := 161) rfl rfl ?_
          exact kk S6 f6 c6 e6 o6 I6 A6 (Fr_cons (Fr_u (Fr_u (Fr_u (Fr_refl _ _) (by decide)) (by decide)) (by decide)) x6 (by decide)) (Fr_cons (Fr_refl _ _) y6 (by decide)) h6 ((x6 28 (by decide)).trans rfl) n6 d6 s6
        · omega
end S56
