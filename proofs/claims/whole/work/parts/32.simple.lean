/-! The calls that read or write a few registers. -/
section S32
variable {n u : Nat} {I : Nat → Int32} {A : Nat → Nat → Int32} {J : Int64} {B : Nat → Int64} {mk sn L : Nat} {xs : Nat → Int32} {X : Nat → mC} {D : Nat → Nat} 
set_option maxRecDepth 100000 in
set_option maxHeartbeats 4000000 in
theorem k_11_53 {dn : Nat} (hc : I 28 = nI dn) (hd4 : dn ≤ 4) (t k v : Int32) {Q : mO × mHp → Prop} (k1 : dn < 4 → ∀ I' A', Fr [28] I I' → Fr [20, 21, 22, 23, 24] A A' → A' 20 = upd (A 20) dn (nI 0) → A' 21 = upd (A 21) dn (t) → A' 22 = upd (A 22) dn (k) → A' 23 = upd (A 23) dn (v) → A' 24 = upd (A 24) dn (nI 0) → I' 28 = nI (dn + 1) → Q (.inl (some (.int (nI 1))), hS n u I' A' J B 53 60 L xs X)) (k0 : dn = 4 → Q (.inl (some (.int (nI 0))), hS n u I A J B 53 60 L xs X)) : mq 11 0 [some (.ref 1), some (.int t), some (.int k), some (.int v)] [] (hS n u I A J B 53 60 L xs X) Q := by
  rcases Nat.lt_or_eq_of_le hd4 with hd | hd
  · refine x_al1 (pc := 0) rfl rfl ?_
    refine g_1_9 (pc := 1) rfl rfl ?_
    refine g_53_0 (pc := 4) rfl rfl ?_
    refine x_const (pc := 7) (pc' := 8) (.int (nI 0)) rfl rfl rfl rfl ?_
    refine x_il1 (pc := 8) rfl rfl ?_
    refine x_il1 (pc := 9) rfl rfl ?_
    refine x_il1 (pc := 10) rfl rfl ?_
    refine x_const (pc := 11) (pc' := 12) (.int (nI 0)) rfl rfl rfl rfl ?_
    refine x_k (pc := 12) rfl rfl rfl ⟨Nat.le_of_ble_eq_true rfl, Nat.le_of_ble_eq_true rfl, Nat.le_of_ble_eq_true rfl⟩ rfl (mq_k (c_12_54 (m := dn) hc hd _ _ _ _ _) ?_)
    show mq 11 15 [some (.ref 1), some (.int t), some (.int k), some (.int v)] [.int (nI 1)] (hS n u (va_up I 28 (nI (dn + 1))) (va_up (va_up (va_up (va_up (va_up A 20 (upd (A 20) dn (nI 0))) 21 (upd (A 21) dn t)) 22 (upd (A 22) dn k)) 23 (upd (A 23) dn v)) 24 (upd (A 24) dn (nI 0))) J B 53 60 L xs X) _
    refine x_ret (pc := 15) rfl rfl ?_
    exact k1 hd _ _ (Fr_u (Fr_refl _ _) (by decide)) (Fr_u (Fr_u (Fr_u (Fr_u (Fr_u (Fr_refl _ _) (by decide)) (by decide)) (by decide)) (by decide)) (by decide)) rfl rfl rfl rfl rfl rfl
  · refine x_al1 (pc := 0) rfl rfl ?_
    refine g_1_9 (pc := 1) rfl rfl ?_
    refine g_53_0 (pc := 4) rfl rfl ?_
    refine x_const (pc := 7) (pc' := 8) (.int (nI 0)) rfl rfl rfl rfl ?_
    refine x_il1 (pc := 8) rfl rfl ?_
    refine x_il1 (pc := 9) rfl rfl ?_
    refine x_il1 (pc := 10) rfl rfl ?_
    refine x_const (pc := 11) (pc' := 12) (.int (nI 0)) rfl rfl rfl rfl ?_
    refine x_k (pc := 12) rfl rfl rfl ⟨Nat.le_of_ble_eq_true rfl, Nat.le_of_ble_eq_true rfl, Nat.le_of_ble_eq_true rfl⟩ rfl (mq_k (c_12f_54 (hd ▸ hc) _ _ _ _ _) ?_)
    show mq 11 15 [some (.ref 1), some (.int t), some (.int k), some (.int v)] [.int (nI 0)] (hS n u I A J B 53 60 L xs X) _
    refine x_ret (pc := 15) rfl rfl ?_
    exact k0 hd
set_option maxRecDepth 100000 in
set_option maxHeartbeats 4000000 in
theorem k_11_60 {dn : Nat} (hc : I 31 = nI dn) (hd4 : dn ≤ 4) (t k v : Int32) {Q : mO × mHp → Prop} (k1 : dn < 4 → ∀ I' A', Fr [31] I I' → Fr [25, 26, 27, 28, 29] A A' → A' 25 = upd (A 25) dn (nI 0) → A' 26 = upd (A 26) dn (t) → A' 27 = upd (A 27) dn (k) → A' 28 = upd (A 28) dn (v) → A' 29 = upd (A 29) dn (nI 0) → I' 31 = nI (dn + 1) → Q (.inl (some (.int (nI 1))), hS n u I' A' J B 60 53 L xs X)) (k0 : dn = 4 → Q (.inl (some (.int (nI 0))), hS n u I A J B 60 53 L xs X)) : mq 11 0 [some (.ref 1), some (.int t), some (.int k), some (.int v)] [] (hS n u I A J B 60 53 L xs X) Q := by
  rcases Nat.lt_or_eq_of_le hd4 with hd | hd
  · refine x_al1 (pc := 0) rfl rfl ?_
    refine g_1_9 (pc := 1) rfl rfl ?_
    refine g_60_0 (pc := 4) rfl rfl ?_
    refine x_const (pc := 7) (pc' := 8) (.int (nI 0)) rfl rfl rfl rfl ?_
    refine x_il1 (pc := 8) rfl rfl ?_
    refine x_il1 (pc := 9) rfl rfl ?_
    refine x_il1 (pc := 10) rfl rfl ?_
    refine x_const (pc := 11) (pc' := 12) (.int (nI 0)) rfl rfl rfl rfl ?_
    refine x_k (pc := 12) rfl rfl rfl ⟨Nat.le_of_ble_eq_true rfl, Nat.le_of_ble_eq_true rfl, Nat.le_of_ble_eq_true rfl⟩ rfl (mq_k (c_12_61 (m := dn) hc hd _ _ _ _ _) ?_)
    show mq 11 15 [some (.ref 1), some (.int t), some (.int k), some (.int v)] [.int (nI 1)] (hS n u (va_up I 31 (nI (dn + 1))) (va_up (va_up (va_up (va_up (va_up A 25 (upd (A 25) dn (nI 0))) 26 (upd (A 26) dn t)) 27 (upd (A 27) dn k)) 28 (upd (A 28) dn v)) 29 (upd (A 29) dn (nI 0))) J B 60 53 L xs X) _
    refine x_ret (pc := 15) rfl rfl ?_
    exact k1 hd _ _ (Fr_u (Fr_refl _ _) (by decide)) (Fr_u (Fr_u (Fr_u (Fr_u (Fr_u (Fr_refl _ _) (by decide)) (by decide)) (by decide)) (by decide)) (by decide)) rfl rfl rfl rfl rfl rfl
  · refine x_al1 (pc := 0) rfl rfl ?_
    refine g_1_9 (pc := 1) rfl rfl ?_
    refine g_60_0 (pc := 4) rfl rfl ?_
    refine x_const (pc := 7) (pc' := 8) (.int (nI 0)) rfl rfl rfl rfl ?_
    refine x_il1 (pc := 8) rfl rfl ?_
    refine x_il1 (pc := 9) rfl rfl ?_
    refine x_il1 (pc := 10) rfl rfl ?_
    refine x_const (pc := 11) (pc' := 12) (.int (nI 0)) rfl rfl rfl rfl ?_
    refine x_k (pc := 12) rfl rfl rfl ⟨Nat.le_of_ble_eq_true rfl, Nat.le_of_ble_eq_true rfl, Nat.le_of_ble_eq_true rfl⟩ rfl (mq_k (c_12f_61 (hd ▸ hc) _ _ _ _ _) ?_)
    show mq 11 15 [some (.ref 1), some (.int t), some (.int k), some (.int v)] [.int (nI 0)] (hS n u I A J B 60 53 L xs X) _
    refine x_ret (pc := 15) rfl rfl ?_
    exact k0 hd
set_option maxRecDepth 100000 in
set_option maxHeartbeats 4000000 in
theorem k_13_53 {dn : Nat} (hc : I 28 = nI dn) (hd4 : dn ≤ 4) (t k : Int32) {Q : mO × mHp → Prop} (k1 : dn < 4 → ∀ I' A', Fr [28] I I' → Fr [20, 21, 22, 23, 24] A A' → A' 20 = upd (A 20) dn (nI 0) → A' 21 = upd (A 21) dn (t) → A' 22 = upd (A 22) dn (k) → A' 23 = upd (A 23) dn (nI 0) → A' 24 = upd (A 24) dn (nI 1) → I' 28 = nI (dn + 1) → Q (.inl (some (.int (nI 1))), hS n u I' A' J B 53 60 L xs X)) (k0 : dn = 4 → Q (.inl (some (.int (nI 0))), hS n u I A J B 53 60 L xs X)) : mq 13 0 [some (.ref 1), some (.int t), some (.int k)] [] (hS n u I A J B 53 60 L xs X) Q := by
  rcases Nat.lt_or_eq_of_le hd4 with hd | hd
  · refine x_al1 (pc := 0) rfl rfl ?_
    refine g_1_9 (pc := 1) rfl rfl ?_
    refine g_53_0 (pc := 4) rfl rfl ?_
    refine x_const (pc := 7) (pc' := 8) (.int (nI 0)) rfl rfl rfl rfl ?_
    refine x_il1 (pc := 8) rfl rfl ?_
    refine x_il1 (pc := 9) rfl rfl ?_
    refine x_const (pc := 10) (pc' := 11) (.int (nI 0)) rfl rfl rfl rfl ?_
    refine x_const (pc := 11) (pc' := 12) (.int (nI 1)) rfl rfl rfl rfl ?_
    refine x_k (pc := 12) rfl rfl rfl ⟨Nat.le_of_ble_eq_true rfl, Nat.le_of_ble_eq_true rfl, Nat.le_of_ble_eq_true rfl⟩ rfl (mq_k (c_12_54 (m := dn) hc hd _ _ _ _ _) ?_)
    show mq 13 15 [some (.ref 1), some (.int t), some (.int k)] [.int (nI 1)] (hS n u (va_up I 28 (nI (dn + 1))) (va_up (va_up (va_up (va_up (va_up A 20 (upd (A 20) dn (nI 0))) 21 (upd (A 21) dn t)) 22 (upd (A 22) dn k)) 23 (upd (A 23) dn (nI 0))) 24 (upd (A 24) dn (nI 1))) J B 53 60 L xs X) _
    refine x_ret (pc := 15) rfl rfl ?_
    exact k1 hd _ _ (Fr_u (Fr_refl _ _) (by decide)) (Fr_u (Fr_u (Fr_u (Fr_u (Fr_u (Fr_refl _ _) (by decide)) (by decide)) (by decide)) (by decide)) (by decide)) rfl rfl rfl rfl rfl rfl
  · refine x_al1 (pc := 0) rfl rfl ?_
    refine g_1_9 (pc := 1) rfl rfl ?_
    refine g_53_0 (pc := 4) rfl rfl ?_
    refine x_const (pc := 7) (pc' := 8) (.int (nI 0)) rfl rfl rfl rfl ?_
    refine x_il1 (pc := 8) rfl rfl ?_
    refine x_il1 (pc := 9) rfl rfl ?_
    refine x_const (pc := 10) (pc' := 11) (.int (nI 0)) rfl rfl rfl rfl ?_
    refine x_const (pc := 11) (pc' := 12) (.int (nI 1)) rfl rfl rfl rfl ?_
    refine x_k (pc := 12) rfl rfl rfl ⟨Nat.le_of_ble_eq_true rfl, Nat.le_of_ble_eq_true rfl, Nat.le_of_ble_eq_true rfl⟩ rfl (mq_k (c_12f_54 (hd ▸ hc) _ _ _ _ _) ?_)
    show mq 13 15 [some (.ref 1), some (.int t), some (.int k)] [.int (nI 0)] (hS n u I A J B 53 60 L xs X) _
    refine x_ret (pc := 15) rfl rfl ?_
    exact k0 hd
set_option maxRecDepth 100000 in
set_option maxHeartbeats 4000000 in
theorem k_13_60 {dn : Nat} (hc : I 31 = nI dn) (hd4 : dn ≤ 4) (t k : Int32) {Q : mO × mHp → Prop} (k1 : dn < 4 → ∀ I' A', Fr [31] I I' → Fr [25, 26, 27, 28, 29] A A' → A' 25 = upd (A 25) dn (nI 0) → A' 26 = upd (A 26) dn (t) → A' 27 = upd (A 27) dn (k) → A' 28 = upd (A 28) dn (nI 0) → A' 29 = upd (A 29) dn (nI 1) → I' 31 = nI (dn + 1) → Q (.inl (some (.int (nI 1))), hS n u I' A' J B 60 53 L xs X)) (k0 : dn = 4 → Q (.inl (some (.int (nI 0))), hS n u I A J B 60 53 L xs X)) : mq 13 0 [some (.ref 1), some (.int t), some (.int k)] [] (hS n u I A J B 60 53 L xs X) Q := by
  rcases Nat.lt_or_eq_of_le hd4 with hd | hd
  · refine x_al1 (pc := 0) rfl rfl ?_
    refine g_1_9 (pc := 1) rfl rfl ?_
    refine g_60_0 (pc := 4) rfl rfl ?_
    refine x_const (pc := 7) (pc' := 8) (.int (nI 0)) rfl rfl rfl rfl ?_
    refine x_il1 (pc := 8) rfl rfl ?_
    refine x_il1 (pc := 9) rfl rfl ?_
    refine x_const (pc := 10) (pc' := 11) (.int (nI 0)) rfl rfl rfl rfl ?_
    refine x_const (pc := 11) (pc' := 12) (.int (nI 1)) rfl rfl rfl rfl ?_
    refine x_k (pc := 12) rfl rfl rfl ⟨Nat.le_of_ble_eq_true rfl, Nat.le_of_ble_eq_true rfl, Nat.le_of_ble_eq_true rfl⟩ rfl (mq_k (c_12_61 (m := dn) hc hd _ _ _ _ _) ?_)
    show mq 13 15 [some (.ref 1), some (.int t), some (.int k)] [.int (nI 1)] (hS n u (va_up I 31 (nI (dn + 1))) (va_up (va_up (va_up (va_up (va_up A 25 (upd (A 25) dn (nI 0))) 26 (upd (A 26) dn t)) 27 (upd (A 27) dn k)) 28 (upd (A 28) dn (nI 0))) 29 (upd (A 29) dn (nI 1))) J B 60 53 L xs X) _
    refine x_ret (pc := 15) rfl rfl ?_
    exact k1 hd _ _ (Fr_u (Fr_refl _ _) (by decide)) (Fr_u (Fr_u (Fr_u (Fr_u (Fr_u (Fr_refl _ _) (by decide)) (by decide)) (by decide)) (by decide)) (by decide)) rfl rfl rfl rfl rfl rfl
  · refine x_al1 (pc := 0) rfl rfl ?_
    refine g_1_9 (pc := 1) rfl rfl ?_
    refine g_60_0 (pc := 4) rfl rfl ?_
    refine x_const (pc := 7) (pc' := 8) (.int (nI 0)) rfl rfl rfl rfl ?_
    refine x_il1 (pc := 8) rfl rfl ?_
    refine x_il1 (pc := 9) rfl rfl ?_
    refine x_const (pc := 10) (pc' := 11) (.int (nI 0)) rfl rfl rfl rfl ?_
    refine x_const (pc := 11) (pc' := 12) (.int (nI 1)) rfl rfl rfl rfl ?_
    refine x_k (pc := 12) rfl rfl rfl ⟨Nat.le_of_ble_eq_true rfl, Nat.le_of_ble_eq_true rfl, Nat.le_of_ble_eq_true rfl⟩ rfl (mq_k (c_12f_61 (hd ▸ hc) _ _ _ _ _) ?_)
    show mq 13 15 [some (.ref 1), some (.int t), some (.int k)] [.int (nI 0)] (hS n u I A J B 60 53 L xs X) _
    refine x_ret (pc := 15) rfl rfl ?_
    exact k0 hd
set_option maxRecDepth 100000 in
set_option maxHeartbeats 4000000 in
theorem k_111 {dn : Nat} (hc : I 64 = nI dn) (hd4 : dn ≤ 4) (t k v d : Int32) {Q : mO × mHp → Prop} (k1 : dn < 4 → ∀ I' A', Fr [60, 64] I I' → Fr [51] A A' → I' 60 = nI 0 → I' 64 = nI (dn + 1) → A' 51 = upd (upd (upd (upd (A 51) (4 + dn) t) (8 + dn) k) (12 + dn) v) (16 + dn) d → Q (.inl (some (.int (nI 1))), hS n u I' A' J B mk sn L xs X)) (k0 : dn = 4 → ∀ I', Fr [60, 64] I I' → I' 60 = nI 0 → I' 64 = nI dn → Q (.inl (some (.int (nI 0))), hS n u I' A J B mk sn L xs X)) : mq 111 0 [some (.ref 67), some (.int t), some (.int k), some (.int v), some (.int d)] [] (hS n u I A J B mk sn L xs X) Q := by
  refine x_al1 (pc := 0) rfl rfl ?_
  refine x_const (pc := 1) (pc' := 2) (.int (nI 0)) rfl rfl rfl rfl ?_
  refine p_67_0 (pc := 2) rfl rfl ?_
  refine x_al1 (pc := 5) rfl rfl ?_
  refine g_67_6 (pc := 6) (v := nI dn) rfl rfl hc ?_
  refine x_const (pc := 9) (pc' := 10) (.int (nI 4)) rfl rfl rfl rfl ?_
  refine x_cmpN_ne (pc := 10) (t := 15) rfl rfl (by omega) (by omega) (fun c10 => ?_) (fun c10 => ?_)
  · refine x_al1 (pc := 15) rfl rfl ?_
    refine g_67_5 (pc := 16) rfl rfl ?_
    refine x_const (pc := 19) (pc' := 20) (.int (nI 4)) rfl rfl rfl rfl ?_
    refine x_al1 (pc := 20) rfl rfl ?_
    refine g_67_6 (pc := 21) (v := nI dn) rfl rfl hc ?_
    refine x_iaddN (pc := 24) (c := 4 + dn) rfl rfl ?_
    refine x_il1 (pc := 25) rfl rfl ?_
    refine as_69 (pc := 26) (q := 4 + dn) rfl rfl (by omega) ?_
    refine x_al1 (pc := 27) rfl rfl ?_
    refine g_67_5 (pc := 28) rfl rfl ?_
    refine x_const (pc := 31) (pc' := 33) (.int (nI 8)) rfl rfl rfl rfl ?_
    refine x_al1 (pc := 33) rfl rfl ?_
    refine g_67_6 (pc := 34) (v := nI dn) rfl rfl hc ?_
    refine x_iaddN (pc := 37) (c := 8 + dn) rfl rfl ?_
    refine x_il1 (pc := 38) rfl rfl ?_
    refine as_69 (pc := 39) (q := 8 + dn) rfl rfl (by omega) ?_
    refine x_al1 (pc := 40) rfl rfl ?_
    refine g_67_5 (pc := 41) rfl rfl ?_
    refine x_const (pc := 44) (pc' := 46) (.int (nI 12)) rfl rfl rfl rfl ?_
    refine x_al1 (pc := 46) rfl rfl ?_
    refine g_67_6 (pc := 47) (v := nI dn) rfl rfl hc ?_
    refine x_iaddN (pc := 50) (c := 12 + dn) rfl rfl ?_
    refine x_il1 (pc := 51) rfl rfl ?_
    refine as_69 (pc := 52) (q := 12 + dn) rfl rfl (by omega) ?_
    refine x_al1 (pc := 53) rfl rfl ?_
    refine g_67_5 (pc := 54) rfl rfl ?_
    refine x_const (pc := 57) (pc' := 59) (.int (nI 16)) rfl rfl rfl rfl ?_
    refine x_al1 (pc := 59) rfl rfl ?_
    refine g_67_6 (pc := 60) (v := nI dn) rfl rfl hc ?_
    refine x_iaddN (pc := 63) (c := 16 + dn) rfl rfl ?_
    refine x_il2 (pc := 64) rfl rfl ?_
    refine as_69 (pc := 66) (q := 16 + dn) rfl rfl (by omega) ?_
    refine x_al1 (pc := 67) rfl rfl ?_
    refine x_step (pc := 68) (pc' := 69) (st' := [.ref 67, .ref 67]) rfl rfl rfl rfl ?_
    refine g_67_6 (pc := 69) (v := nI dn) rfl rfl hc ?_
    refine x_const (pc := 72) (pc' := 73) (.int (nI 1)) rfl rfl rfl rfl ?_
    refine x_iaddN (pc := 73) (c := dn + 1) rfl rfl ?_
    refine p_67_6 (pc := 74) rfl rfl ?_
    refine x_const (pc := 77) (pc' := 78) (.int (nI 1)) rfl rfl rfl rfl ?_
    refine x_ret (pc := 78) rfl rfl ?_
    exact k1 (by omega) _ _ (Fr_u (Fr_u (Fr_refl _ _) (by decide)) (by decide)) (Fr_u (Fr_u (Fr_u (Fr_u (Fr_refl _ _) (by decide)) (by decide)) (by decide)) (by decide)) rfl rfl rfl
  · refine x_const (pc := 13) (pc' := 14) (.int (nI 0)) rfl rfl rfl rfl ?_
    refine x_ret (pc := 14) rfl rfl ?_
    exact k0 (by omega) _ (Fr_u (Fr_refl _ _) (by decide)) rfl hc
set_option maxRecDepth 100000 in
set_option maxHeartbeats 4000000 in
theorem k_110 {dn : Nat} (hc : I 64 = nI dn) (hd4 : dn ≤ 4) (t k v : Int32) {Q : mO × mHp → Prop} (k1 : dn < 4 → ∀ I' A', Fr [60, 64] I I' → Fr [51] A A' → I' 60 = nI 0 → I' 64 = nI (dn + 1) → A' 51 = upd (upd (upd (upd (A 51) (4 + dn) t) (8 + dn) k) (12 + dn) (v)) (16 + dn) (nI 0) → Q (.inl (some (.int (nI 1))), hS n u I' A' J B mk sn L xs X)) (k0 : dn = 4 → ∀ I', Fr [60, 64] I I' → I' 60 = nI 0 → I' 64 = nI dn → Q (.inl (some (.int (nI 0))), hS n u I' A J B mk sn L xs X)) : mq 110 0 [some (.ref 67), some (.int t), some (.int k), some (.int v)] [] (hS n u I A J B mk sn L xs X) Q := by
  refine x_al1 (pc := 0) rfl rfl ?_
  refine x_il1 (pc := 1) rfl rfl ?_
  refine x_il1 (pc := 2) rfl rfl ?_
  refine x_il1 (pc := 3) rfl rfl ?_
  refine x_const (pc := 4) (pc' := 5) (.int (nI 0)) rfl rfl rfl rfl ?_
  refine x_k (pc := 5) rfl rfl rfl ⟨Nat.le_of_ble_eq_true rfl, Nat.le_of_ble_eq_true rfl, Nat.le_of_ble_eq_true rfl⟩ rfl (k_111 hc hd4 t k v (nI 0) (fun g I1 A1 f1 g1 e1 e2 e3 => ?_) (fun g I1 f1 e1 e2 => ?_))
  · exact x_ret (pc := 8) rfl rfl (k1 g I1 A1 f1 g1 e1 e2 e3)
  · exact x_ret (pc := 8) rfl rfl (k0 g I1 f1 e1 e2)
set_option maxRecDepth 100000 in
set_option maxHeartbeats 4000000 in
theorem k_112 {dn : Nat} (hc : I 64 = nI dn) (hd4 : dn ≤ 4) (t k : Int32) {Q : mO × mHp → Prop} (k1 : dn < 4 → ∀ I' A', Fr [60, 64] I I' → Fr [51] A A' → I' 60 = nI 0 → I' 64 = nI (dn + 1) → A' 51 = upd (upd (upd (upd (A 51) (4 + dn) t) (8 + dn) k) (12 + dn) (nI 0)) (16 + dn) (nI 1) → Q (.inl (some (.int (nI 1))), hS n u I' A' J B mk sn L xs X)) (k0 : dn = 4 → ∀ I', Fr [60, 64] I I' → I' 60 = nI 0 → I' 64 = nI dn → Q (.inl (some (.int (nI 0))), hS n u I' A J B mk sn L xs X)) : mq 112 0 [some (.ref 67), some (.int t), some (.int k)] [] (hS n u I A J B mk sn L xs X) Q := by
  refine x_al1 (pc := 0) rfl rfl ?_
  refine x_il1 (pc := 1) rfl rfl ?_
  refine x_il1 (pc := 2) rfl rfl ?_
  refine x_const (pc := 3) (pc' := 4) (.int (nI 0)) rfl rfl rfl rfl ?_
  refine x_const (pc := 4) (pc' := 5) (.int (nI 1)) rfl rfl rfl rfl ?_
  refine x_k (pc := 5) rfl rfl rfl ⟨Nat.le_of_ble_eq_true rfl, Nat.le_of_ble_eq_true rfl, Nat.le_of_ble_eq_true rfl⟩ rfl (k_111 hc hd4 t k (nI 0) (nI 1) (fun g I1 A1 f1 g1 e1 e2 e3 => ?_) (fun g I1 f1 e1 e2 => ?_))
  · exact x_ret (pc := 8) rfl rfl (k1 g I1 A1 f1 g1 e1 e2 e3)
  · exact x_ret (pc := 8) rfl rfl (k0 g I1 f1 e1 e2)
set_option maxRecDepth 100000 in
set_option maxHeartbeats 4000000 in
theorem k_114 {w : Nat} (hw : w < 100) {Q : mO × mHp → Prop} (kk : Q (.inl (some (.int (nI (if w = 0 then 0 else 1)))), hS n u (va_up I 60 (nI w)) A J B mk sn L xs X)) : mq 114 0 [some (.ref 67), some (.int (nI w))] [] (hS n u I A J B mk sn L xs X) Q := by
  refine x_al1 (pc := 0) rfl rfl ?_
  refine x_il1 (pc := 1) rfl rfl ?_
  refine p_67_0 (pc := 2) rfl rfl ?_
  refine x_il1 (pc := 5) rfl rfl ?_
  refine x_ifN_le (pc := 6) (t := 13) rfl rfl (by omega) (fun c6 => ?_) (fun c6 => ?_)
  · refine x_const (pc := 13) (pc' := 14) (.int (nI 0)) rfl rfl rfl rfl ?_
    refine x_ret (pc := 14) rfl rfl ?_
    rw [if_pos c6] at kk
    exact kk
  · refine x_const (pc := 9) (pc' := 10) (.int (nI 1)) rfl rfl rfl rfl ?_
    refine x_step (pc := 10) (pc' := 14) rfl rfl rfl rfl ?_
    refine x_ret (pc := 14) rfl rfl ?_
    rw [if_neg (by omega)] at kk
    exact kk
set_option maxRecDepth 100000 in
set_option maxHeartbeats 4000000 in
theorem k_109 {v : Int32} (hv : I 60 = v) {Q : mO × mHp → Prop} (kk : Q (.inl (some (.int v)), hS n u I A J B mk sn L xs X)) : mq 109 0 [some (.ref 67)] [] (hS n u I A J B mk sn L xs X) Q := by
  refine x_al1 (pc := 0) rfl rfl ?_
  refine g_67_0 (pc := 1) (v := v) rfl rfl hv ?_
  refine x_ret (pc := 4) rfl rfl ?_
  exact kk
set_option maxRecDepth 100000 in
set_option maxHeartbeats 4000000 in
theorem k_15 (k : Int32) {Q : mO × mHp → Prop} (kk : Q (.inl none, hS n u (va_up (va_up I 1 (nI 1)) 2 k) A J B mk sn L xs X)) : mq 15 0 [some (.ref 2), some (.int k)] [] (hS n u I A J B mk sn L xs X) Q := by
  refine x_al1 (pc := 0) rfl rfl ?_
  refine x_const (pc := 1) (pc' := 2) (.int (nI 1)) rfl rfl rfl rfl ?_
  refine p_2_2 (pc := 2) rfl rfl (by decide) ?_
  refine x_al1 (pc := 5) rfl rfl ?_
  refine x_il1 (pc := 6) rfl rfl ?_
  refine p_2_3 (pc := 7) rfl rfl ?_
  refine x_ret (pc := 10) rfl rfl ?_
  exact kk
set_option maxRecDepth 100000 in
set_option maxHeartbeats 4000000 in
theorem k_14 {on : Nat} (h0 : I 0 = nI on) (hon : on ≤ 1) (k : Int32) {Q : mO × mHp → Prop} (k1 : ¬ k < 0 → on = 1 → Q (.inl (some (.int (nI 1))), hS n u (va_up (va_up I 1 (nI 1)) 2 k) A J B mk sn L xs X)) (k0 : (k < 0 ∨ on = 0) → Q (.inl (some (.int (nI 0))), hS n u I A J B mk sn L xs X)) : mq 14 0 [some (.ref 1), some (.int k)] [] (hS n u I A J B mk sn L xs X) Q := by
  refine x_il1 (pc := 0) rfl rfl ?_
  refine x_if_lt (pc := 1) (t := 14) rfl rfl rfl (fun c1 => ?_) (fun c1 => ?_)
  · refine x_const (pc := 14) (pc' := 15) (.int (nI 0)) rfl rfl rfl rfl ?_
    refine x_ret (pc := 15) rfl rfl ?_
    exact k0 (by first | exact Or.inl c1 | exact Or.inr c11)
  · refine x_al1 (pc := 4) rfl rfl ?_
    refine g_1_0 (pc := 5) rfl rfl ?_
    refine g_2_1 (pc := 8) (v := nI on) rfl rfl h0 ?_
    refine x_ifN_ne (pc := 11) (t := 16) rfl rfl (by omega) (fun c11 => ?_) (fun c11 => ?_)
    · refine x_al1 (pc := 16) rfl rfl ?_
      refine g_1_0 (pc := 17) rfl rfl ?_
      refine x_il1 (pc := 20) rfl rfl ?_
      refine x_k (pc := 21) rfl rfl rfl ⟨Nat.le_of_ble_eq_true rfl, Nat.le_of_ble_eq_true rfl, Nat.le_of_ble_eq_true rfl⟩ rfl (k_15 _ ?_)
      show mq 14 24 [some (.ref 1), some (.int k)] [] (hS n u (va_up (va_up I 1 (nI 1)) 2 k) A J B mk sn L xs X) _
      refine x_const (pc := 24) (pc' := 25) (.int (nI 1)) rfl rfl rfl rfl ?_
      refine x_ret (pc := 25) rfl rfl ?_
      exact k1 c1 (by omega)
    · refine x_const (pc := 14) (pc' := 15) (.int (nI 0)) rfl rfl rfl rfl ?_
      refine x_ret (pc := 15) rfl rfl ?_
      exact k0 (by first | exact Or.inl c1 | exact Or.inr c11)
set_option maxRecDepth 100000 in
set_option maxHeartbeats 4000000 in
theorem k_153 {on : Nat} (h61 : I 61 = nI (1 - on)) (hon : on ≤ 1) (k : Int32) {Q : mO × mHp → Prop} (k1 : ¬ k < 0 → on = 1 → Q (.inl (some (.int (nI 1))), hS n u (va_up (va_up I 60 (nI 0)) 63 k) A J B mk sn L xs X)) (k0 : (k < 0 ∨ on = 0) → Q (.inl (some (.int (nI 0))), hS n u (va_up I 60 (nI 0)) A J B mk sn L xs X)) : mq 153 0 [some (.ref 67), some (.int k)] [] (hS n u I A J B mk sn L xs X) Q := by
  refine x_al1 (pc := 0) rfl rfl ?_
  refine x_const (pc := 1) (pc' := 2) (.int (nI 0)) rfl rfl rfl rfl ?_
  refine p_67_0 (pc := 2) rfl rfl ?_
  refine x_il1 (pc := 5) rfl rfl ?_
  refine x_if_lt (pc := 6) (t := 16) rfl rfl rfl (fun c6 => ?_) (fun c6 => ?_)
  · refine x_const (pc := 16) (pc' := 17) (.int (nI 0)) rfl rfl rfl rfl ?_
    refine x_ret (pc := 17) rfl rfl ?_
    exact k0 (by first | exact Or.inl c6 | exact Or.inr (by omega))
  · refine x_al1 (pc := 9) rfl rfl ?_
    refine g_67_2 (pc := 10) (v := nI (1 - on)) rfl rfl h61 ?_
    refine x_ifN_eq (pc := 13) (t := 18) rfl rfl (by omega) (fun c13 => ?_) (fun c13 => ?_)
    · refine x_al1 (pc := 18) rfl rfl ?_
      refine x_il1 (pc := 19) rfl rfl ?_
      refine p_67_4 (pc := 20) rfl rfl ?_
      refine x_const (pc := 23) (pc' := 24) (.int (nI 1)) rfl rfl rfl rfl ?_
      refine x_ret (pc := 24) rfl rfl ?_
      exact k1 c6 (by omega)
    · refine x_const (pc := 16) (pc' := 17) (.int (nI 0)) rfl rfl rfl rfl ?_
      refine x_ret (pc := 17) rfl rfl ?_
      exact k0 (by first | exact Or.inl c6 | exact Or.inr (by omega))
def kn (s c o w : Int32) : Int32 := if c = 0 then -1 else if w = 0 then s else if w = 1 then c else if w = 2 then o else -1
theorem kn_0 (s o w : Int32) {c : Int32} (h : c = 0) : kn s c o w = -1 := if_pos h
theorem kn_n {s o w c : Int32} (h : w < 0 ∨ nI 3 ≤ w) : kn s c o w = -1 := by
  unfold kn
  have h0 : ¬ w = 0 := by
    rintro rfl
    rcases h with h | h
    · exact absurd h (by decide)
    · exact absurd h (by decide)
  have h1 : ¬ w = 1 := by
    rintro rfl
    rcases h with h | h
    · exact absurd h (by decide)
    · exact absurd h (by decide)
  have h2 : ¬ w = 2 := by
    rintro rfl
    rcases h with h | h
    · exact absurd h (by decide)
    · exact absurd h (by decide)
  rw [if_neg h0, if_neg h1, if_neg h2]
  split <;> rfl
theorem kn_s {s o w c : Int32} (h : ¬ c = 0) (hw : w = nI 0) : kn s c o w = s := by
  subst hw
  unfold kn
  rw [if_neg h]
  rfl
theorem kn_c {s o w c : Int32} (h : ¬ c = 0) (hw : w = nI 1) : kn s c o w = c := by
  subst hw
  unfold kn
  rw [if_neg h]
  rfl
theorem kn_o {s o w c : Int32} (h : ¬ c = 0) (hw : w = nI 2) : kn s c o w = o := by
  subst hw
  unfold kn
  rw [if_neg h]
  rfl
set_option maxRecDepth 100000 in
set_option maxHeartbeats 4000000 in
theorem k_48 {i : Nat} (hi : i < 4) {Q : mO × mHp → Prop} (kk : Q (.inl (some (.int (nI 1))), hS n u I A J B mk sn L xs X)) : mq 48 0 [some (.int (nI i))] [] (hS n u I A J B mk sn L xs X) Q := by
  refine x_il1 (pc := 0) rfl rfl ?_
  refine x_ifN_lt (pc := 1) (t := 13) rfl rfl (by omega) ?_
  refine x_il1 (pc := 4) rfl rfl ?_
  refine x_const (pc := 5) (pc' := 6) (.int (nI 4)) rfl rfl rfl rfl ?_
  refine x_cmpN_ge (pc := 6) (t := 13) rfl rfl (by omega) (by omega) (fun c6 => ?_) (fun c6 => ?_)
  · omega
  · refine x_const (pc := 9) (pc' := 10) (.int (nI 1)) rfl rfl rfl rfl ?_
    refine x_step (pc := 10) (pc' := 14) rfl rfl rfl rfl ?_
    refine x_ret (pc := 14) rfl rfl ?_
    exact kk
set_option maxRecDepth 100000 in
set_option maxHeartbeats 4000000 in
theorem k_48b {x : Int32} (hx : x < 0 ∨ nI 4 ≤ x) {Q : mO × mHp → Prop} (kk : Q (.inl (some (.int (nI 0))), hS n u I A J B mk sn L xs X)) : mq 48 0 [some (.int x)] [] (hS n u I A J B mk sn L xs X) Q := by
  refine x_il1 (pc := 0) rfl rfl ?_
  refine x_if_lt (pc := 1) (t := 13) rfl rfl rfl (fun c1 => ?_) (fun c1 => ?_)
  · refine x_const (pc := 13) (pc' := 14) (.int (nI 0)) rfl rfl rfl rfl ?_
    refine x_ret (pc := 14) rfl rfl ?_
    exact kk
  · refine x_il1 (pc := 4) rfl rfl ?_
    refine x_const (pc := 5) (pc' := 6) (.int (nI 4)) rfl rfl rfl rfl ?_
    refine x_cmp_ge (pc := 6) (t := 13) rfl rfl rfl (fun c6 => ?_) (fun c6 => ?_)
    · refine x_const (pc := 13) (pc' := 14) (.int (nI 0)) rfl rfl rfl rfl ?_
      refine x_ret (pc := 14) rfl rfl ?_
      exact kk
    · exact absurd hx (fun q => q.elim c1 c6)
set_option maxRecDepth 100000 in
set_option maxHeartbeats 4000000 in
theorem k_53_0 {p m : Nat} (hp : p < 8) (hm : A 32 p = nI m) (hm5 : m < 5) {Q : mO × mHp → Prop} (kk : Q (.inl (some (.int (nI (if m = 0 then 0 else 1)))), hS n u I A J B mk sn L xs X)) : mq 53 0 [some (.ref 13), some (.int (nI p))] [] (hS n u I A J B mk sn L xs X) Q := by
  refine x_il1 (pc := 0) rfl rfl ?_
  refine x_ifN_lt (pc := 1) (t := 23) rfl rfl (by omega) ?_
  refine x_il1 (pc := 4) rfl rfl ?_
  refine x_const (pc := 5) (pc' := 7) (.int (nI 8)) rfl rfl rfl rfl ?_
  refine x_cmpN_ge (pc := 7) (t := 23) rfl rfl (by omega) (by omega) (fun c7 => ?_) (fun c7 => ?_)
  · omega
  · refine x_al1 (pc := 10) rfl rfl ?_
    refine g_13_3 (pc := 11) rfl rfl ?_
    refine x_il1 (pc := 14) rfl rfl ?_
    refine al_16 (pc := 15) (q := p) (v := nI m) rfl rfl hp hm ?_
    refine x_ifN_le (pc := 16) (t := 23) rfl rfl (by omega) (fun c16 => ?_) (fun c16 => ?_)
    · refine x_const (pc := 23) (pc' := 24) (.int (nI 0)) rfl rfl rfl rfl ?_
      refine x_ret (pc := 24) rfl rfl ?_
      rw [if_pos c16] at kk
      exact kk
    · refine x_const (pc := 19) (pc' := 20) (.int (nI 1)) rfl rfl rfl rfl ?_
      refine x_step (pc := 20) (pc' := 24) rfl rfl rfl rfl ?_
      refine x_ret (pc := 24) rfl rfl ?_
      rw [if_neg (by omega)] at kk
      exact kk
set_option maxRecDepth 100000 in
set_option maxHeartbeats 4000000 in
theorem k_53b_0 {p : Int32} (hx : p < 0 ∨ nI 8 ≤ p) {Q : mO × mHp → Prop} (kk : Q (.inl (some (.int (nI 0))), hS n u I A J B mk sn L xs X)) : mq 53 0 [some (.ref 13), some (.int p)] [] (hS n u I A J B mk sn L xs X) Q := by
  refine x_il1 (pc := 0) rfl rfl ?_
  refine x_if_lt (pc := 1) (t := 23) rfl rfl rfl (fun c1 => ?_) (fun c1 => ?_)
  · refine x_const (pc := 23) (pc' := 24) (.int (nI 0)) rfl rfl rfl rfl ?_
    refine x_ret (pc := 24) rfl rfl ?_
    exact kk
  · refine x_il1 (pc := 4) rfl rfl ?_
    refine x_const (pc := 5) (pc' := 7) (.int (nI 8)) rfl rfl rfl rfl ?_
    refine x_cmp_ge (pc := 7) (t := 23) rfl rfl rfl (fun c7 => ?_) (fun c7 => ?_)
    · refine x_const (pc := 23) (pc' := 24) (.int (nI 0)) rfl rfl rfl rfl ?_
      refine x_ret (pc := 24) rfl rfl ?_
      exact kk
    · exact absurd hx (fun q => q.elim c1 c7)
set_option maxRecDepth 100000 in
set_option maxHeartbeats 4000000 in
theorem k_52_0 {p m : Nat} {w : Int32} (hp : p < 8) (hm : A 32 p = nI m) (hm5 : m < 5) {Q : mO × mHp → Prop} (kk : Q (.inl (some (.int (kn (A 31 p) (A 32 p) (A 33 p) w))), hS n u I A J B mk sn L xs X)) : mq 52 0 [some (.ref 1), some (.int (nI 0)), some (.int (nI p)), some (.int w)] [] (hS n u I A J B mk sn L xs X) Q := by
  refine x_il1 (pc := 0) rfl rfl ?_
  refine x_k (pc := 1) rfl rfl rfl ⟨Nat.le_of_ble_eq_true rfl, Nat.le_of_ble_eq_true rfl, Nat.le_of_ble_eq_true rfl⟩ rfl (k_48 (by decide) ?_)
  show mq 52 4 [some (.ref 1), some (.int (nI 0)), some (.int (nI p)), some (.int w)] [.int (nI 1)] (hS n u I A J B mk sn L xs X) _
  refine x_ifN_eq (pc := 4) (t := 30) rfl rfl (by omega) (fun c4 => ?_) (fun c4 => ?_)
  · exact absurd c4 (by decide)
  · refine x_il1 (pc := 7) rfl rfl ?_
    refine x_ifN_lt (pc := 8) (t := 30) rfl rfl (by omega) ?_
    refine x_il1 (pc := 11) rfl rfl ?_
    refine x_const (pc := 12) (pc' := 14) (.int (nI 8)) rfl rfl rfl rfl ?_
    refine x_cmpN_ge (pc := 14) (t := 30) rfl rfl (by omega) (by omega) (fun c14 => ?_) (fun c14 => ?_)
    · omega
    · refine x_al1 (pc := 17) rfl rfl ?_
      refine g_1_2 (pc := 18) rfl rfl ?_
      refine x_il1 (pc := 21) rfl rfl ?_
      refine aal (pc := 22) (q := 0) (a := 13) rfl rfl (by decide) rfl ?_
      refine x_il1 (pc := 23) rfl rfl ?_
      refine x_k (pc := 24) rfl rfl rfl ⟨Nat.le_of_ble_eq_true rfl, Nat.le_of_ble_eq_true rfl, Nat.le_of_ble_eq_true rfl⟩ rfl (k_53_0 hp hm hm5 ?_)
      show mq 52 27 [some (.ref 1), some (.int (nI 0)), some (.int (nI p)), some (.int w)] [.int (nI (if m = 0 then 0 else 1))] (hS n u I A J B mk sn L xs X) _
      refine x_ifN_ne (pc := 27) (t := 32) rfl rfl (by split <;> omega) (fun c27 => ?_) (fun c27 => ?_)
      · have c27 : _ := c27
        have c27 : ¬ m = 0 := fun q => c27 (if_pos q)
        refine x_il1 (pc := 32) rfl rfl ?_
        rcases pk_ix w (n := 3) (by decide) with c33 | c33 | ⟨j33, c33, e33⟩
        · refine x_tabd (pc := 33) (t := 96) rfl rfl (Or.inl (tab_lt c33)) ?_
          refine x_const (pc := 96) (pc' := 97) (.int (-1)) rfl rfl rfl rfl ?_
          refine x_ret (pc := 97) rfl rfl ?_
          rw [show kn _ _ _ w = _ from kn_n (by first | exact Or.inl c33 | exact Or.inr c33)] at kk
          exact kk
        · refine x_tabd (pc := 33) (t := 96) rfl rfl (Or.inr (tab_ge (n := 2) (by decide) c33)) ?_
          refine x_const (pc := 96) (pc' := 97) (.int (-1)) rfl rfl rfl rfl ?_
          refine x_ret (pc := 97) rfl rfl ?_
          rw [show kn _ _ _ w = _ from kn_n (by first | exact Or.inl c33 | exact Or.inr c33)] at kk
          exact kk
        · match j33, c33, e33 with
          | 0, _, e33 =>
            refine x_tabi (pc := 33) (i := 0) (t := 60) rfl rfl e33 ?_
            refine x_al1 (pc := 60) rfl rfl ?_
            refine g_1_2 (pc := 61) rfl rfl ?_
            refine x_il1 (pc := 64) rfl rfl ?_
            refine aal (pc := 65) (q := 0) (a := 13) rfl rfl (by decide) rfl ?_
            refine g_13_2 (pc := 66) rfl rfl ?_
            refine x_il1 (pc := 69) rfl rfl ?_
            refine al_15 (pc := 70) (q := p) (v := (A 31) p) rfl rfl hp rfl ?_
            refine x_ret (pc := 71) rfl rfl ?_
            rw [show kn _ _ _ w = _ from kn_s (by rw [hm]; exact fun q => c27 ((nI_z (by omega)).mp q)) e33] at kk
            exact kk
          | 1, _, e33 =>
            refine x_tabi (pc := 33) (i := 1) (t := 72) rfl rfl e33 ?_
            refine x_al1 (pc := 72) rfl rfl ?_
            refine g_1_2 (pc := 73) rfl rfl ?_
            refine x_il1 (pc := 76) rfl rfl ?_
            refine aal (pc := 77) (q := 0) (a := 13) rfl rfl (by decide) rfl ?_
            refine g_13_3 (pc := 78) rfl rfl ?_
            refine x_il1 (pc := 81) rfl rfl ?_
            refine al_16 (pc := 82) (q := p) (v := (A 32) p) rfl rfl hp rfl ?_
            refine x_ret (pc := 83) rfl rfl ?_
            rw [show kn _ _ _ w = _ from kn_c (by rw [hm]; exact fun q => c27 ((nI_z (by omega)).mp q)) e33] at kk
            exact kk
          | 2, _, e33 =>
            refine x_tabi (pc := 33) (i := 2) (t := 84) rfl rfl e33 ?_
            refine x_al1 (pc := 84) rfl rfl ?_
            refine g_1_2 (pc := 85) rfl rfl ?_
            refine x_il1 (pc := 88) rfl rfl ?_
            refine aal (pc := 89) (q := 0) (a := 13) rfl rfl (by decide) rfl ?_
            refine g_13_4 (pc := 90) rfl rfl ?_
            refine x_il1 (pc := 93) rfl rfl ?_
            refine al_17 (pc := 94) (q := p) (v := (A 33) p) rfl rfl hp rfl ?_
            refine x_ret (pc := 95) rfl rfl ?_
            rw [show kn _ _ _ w = _ from kn_o (by rw [hm]; exact fun q => c27 ((nI_z (by omega)).mp q)) e33] at kk
            exact kk
      · have c27 : _ := c27
        have c27 : m = 0 := Classical.byContradiction fun q => absurd c27 (by rw [if_neg q]; decide)
        refine x_const (pc := 30) (pc' := 31) (.int (-1)) rfl rfl rfl rfl ?_
        refine x_ret (pc := 31) rfl rfl ?_
        rw [show kn _ _ _ w = _ from kn_0 _ _ _ (by rw [hm, c27]; rfl)] at kk
        exact kk
set_option maxRecDepth 100000 in
set_option maxHeartbeats 4000000 in
theorem k_53_1 {p m : Nat} (hp : p < 8) (hm : A 36 p = nI m) (hm5 : m < 5) {Q : mO × mHp → Prop} (kk : Q (.inl (some (.int (nI (if m = 0 then 0 else 1)))), hS n u I A J B mk sn L xs X)) : mq 53 0 [some (.ref 18), some (.int (nI p))] [] (hS n u I A J B mk sn L xs X) Q := by
  refine x_il1 (pc := 0) rfl rfl ?_
  refine x_ifN_lt (pc := 1) (t := 23) rfl rfl (by omega) ?_
  refine x_il1 (pc := 4) rfl rfl ?_
  refine x_const (pc := 5) (pc' := 7) (.int (nI 8)) rfl rfl rfl rfl ?_
  refine x_cmpN_ge (pc := 7) (t := 23) rfl rfl (by omega) (by omega) (fun c7 => ?_) (fun c7 => ?_)
  · omega
  · refine x_al1 (pc := 10) rfl rfl ?_
    refine g_18_3 (pc := 11) rfl rfl ?_
    refine x_il1 (pc := 14) rfl rfl ?_
    refine al_21 (pc := 15) (q := p) (v := nI m) rfl rfl hp hm ?_
    refine x_ifN_le (pc := 16) (t := 23) rfl rfl (by omega) (fun c16 => ?_) (fun c16 => ?_)
    · refine x_const (pc := 23) (pc' := 24) (.int (nI 0)) rfl rfl rfl rfl ?_
      refine x_ret (pc := 24) rfl rfl ?_
      rw [if_pos c16] at kk
      exact kk
    · refine x_const (pc := 19) (pc' := 20) (.int (nI 1)) rfl rfl rfl rfl ?_
      refine x_step (pc := 20) (pc' := 24) rfl rfl rfl rfl ?_
      refine x_ret (pc := 24) rfl rfl ?_
      rw [if_neg (by omega)] at kk
      exact kk
set_option maxRecDepth 100000 in
set_option maxHeartbeats 4000000 in
theorem k_53b_1 {p : Int32} (hx : p < 0 ∨ nI 8 ≤ p) {Q : mO × mHp → Prop} (kk : Q (.inl (some (.int (nI 0))), hS n u I A J B mk sn L xs X)) : mq 53 0 [some (.ref 18), some (.int p)] [] (hS n u I A J B mk sn L xs X) Q := by
  refine x_il1 (pc := 0) rfl rfl ?_
  refine x_if_lt (pc := 1) (t := 23) rfl rfl rfl (fun c1 => ?_) (fun c1 => ?_)
  · refine x_const (pc := 23) (pc' := 24) (.int (nI 0)) rfl rfl rfl rfl ?_
    refine x_ret (pc := 24) rfl rfl ?_
    exact kk
  · refine x_il1 (pc := 4) rfl rfl ?_
    refine x_const (pc := 5) (pc' := 7) (.int (nI 8)) rfl rfl rfl rfl ?_
    refine x_cmp_ge (pc := 7) (t := 23) rfl rfl rfl (fun c7 => ?_) (fun c7 => ?_)
    · refine x_const (pc := 23) (pc' := 24) (.int (nI 0)) rfl rfl rfl rfl ?_
      refine x_ret (pc := 24) rfl rfl ?_
      exact kk
    · exact absurd hx (fun q => q.elim c1 c7)
set_option maxRecDepth 100000 in
set_option maxHeartbeats 4000000 in
theorem k_52_1 {p m : Nat} {w : Int32} (hp : p < 8) (hm : A 36 p = nI m) (hm5 : m < 5) {Q : mO × mHp → Prop} (kk : Q (.inl (some (.int (kn (A 35 p) (A 36 p) (A 37 p) w))), hS n u I A J B mk sn L xs X)) : mq 52 0 [some (.ref 1), some (.int (nI 1)), some (.int (nI p)), some (.int w)] [] (hS n u I A J B mk sn L xs X) Q := by
  refine x_il1 (pc := 0) rfl rfl ?_
  refine x_k (pc := 1) rfl rfl rfl ⟨Nat.le_of_ble_eq_true rfl, Nat.le_of_ble_eq_true rfl, Nat.le_of_ble_eq_true rfl⟩ rfl (k_48 (by decide) ?_)
  show mq 52 4 [some (.ref 1), some (.int (nI 1)), some (.int (nI p)), some (.int w)] [.int (nI 1)] (hS n u I A J B mk sn L xs X) _
  refine x_ifN_eq (pc := 4) (t := 30) rfl rfl (by omega) (fun c4 => ?_) (fun c4 => ?_)
  · exact absurd c4 (by decide)
  · refine x_il1 (pc := 7) rfl rfl ?_
    refine x_ifN_lt (pc := 8) (t := 30) rfl rfl (by omega) ?_
    refine x_il1 (pc := 11) rfl rfl ?_
    refine x_const (pc := 12) (pc' := 14) (.int (nI 8)) rfl rfl rfl rfl ?_
    refine x_cmpN_ge (pc := 14) (t := 30) rfl rfl (by omega) (by omega) (fun c14 => ?_) (fun c14 => ?_)
    · omega
    · refine x_al1 (pc := 17) rfl rfl ?_
      refine g_1_2 (pc := 18) rfl rfl ?_
      refine x_il1 (pc := 21) rfl rfl ?_
      refine aal (pc := 22) (q := 1) (a := 18) rfl rfl (by decide) rfl ?_
      refine x_il1 (pc := 23) rfl rfl ?_
      refine x_k (pc := 24) rfl rfl rfl ⟨Nat.le_of_ble_eq_true rfl, Nat.le_of_ble_eq_true rfl, Nat.le_of_ble_eq_true rfl⟩ rfl (k_53_1 hp hm hm5 ?_)
      show mq 52 27 [some (.ref 1), some (.int (nI 1)), some (.int (nI p)), some (.int w)] [.int (nI (if m = 0 then 0 else 1))] (hS n u I A J B mk sn L xs X) _
      refine x_ifN_ne (pc := 27) (t := 32) rfl rfl (by split <;> omega) (fun c27 => ?_) (fun c27 => ?_)
      · have c27 : _ := c27
        have c27 : ¬ m = 0 := fun q => c27 (if_pos q)
        refine x_il1 (pc := 32) rfl rfl ?_
        rcases pk_ix w (n := 3) (by decide) with c33 | c33 | ⟨j33, c33, e33⟩
        · refine x_tabd (pc := 33) (t := 96) rfl rfl (Or.inl (tab_lt c33)) ?_
          refine x_const (pc := 96) (pc' := 97) (.int (-1)) rfl rfl rfl rfl ?_
          refine x_ret (pc := 97) rfl rfl ?_
          rw [show kn _ _ _ w = _ from kn_n (by first | exact Or.inl c33 | exact Or.inr c33)] at kk
          exact kk
        · refine x_tabd (pc := 33) (t := 96) rfl rfl (Or.inr (tab_ge (n := 2) (by decide) c33)) ?_
          refine x_const (pc := 96) (pc' := 97) (.int (-1)) rfl rfl rfl rfl ?_
          refine x_ret (pc := 97) rfl rfl ?_
          rw [show kn _ _ _ w = _ from kn_n (by first | exact Or.inl c33 | exact Or.inr c33)] at kk
          exact kk
        · match j33, c33, e33 with
          | 0, _, e33 =>
            refine x_tabi (pc := 33) (i := 0) (t := 60) rfl rfl e33 ?_
            refine x_al1 (pc := 60) rfl rfl ?_
            refine g_1_2 (pc := 61) rfl rfl ?_
            refine x_il1 (pc := 64) rfl rfl ?_
            refine aal (pc := 65) (q := 1) (a := 18) rfl rfl (by decide) rfl ?_
            refine g_18_2 (pc := 66) rfl rfl ?_
            refine x_il1 (pc := 69) rfl rfl ?_
            refine al_20 (pc := 70) (q := p) (v := (A 35) p) rfl rfl hp rfl ?_
            refine x_ret (pc := 71) rfl rfl ?_
            rw [show kn _ _ _ w = _ from kn_s (by rw [hm]; exact fun q => c27 ((nI_z (by omega)).mp q)) e33] at kk
            exact kk
          | 1, _, e33 =>
            refine x_tabi (pc := 33) (i := 1) (t := 72) rfl rfl e33 ?_
            refine x_al1 (pc := 72) rfl rfl ?_
            refine g_1_2 (pc := 73) rfl rfl ?_
            refine x_il1 (pc := 76) rfl rfl ?_
            refine aal (pc := 77) (q := 1) (a := 18) rfl rfl (by decide) rfl ?_
            refine g_18_3 (pc := 78) rfl rfl ?_
            refine x_il1 (pc := 81) rfl rfl ?_
            refine al_21 (pc := 82) (q := p) (v := (A 36) p) rfl rfl hp rfl ?_
            refine x_ret (pc := 83) rfl rfl ?_
            rw [show kn _ _ _ w = _ from kn_c (by rw [hm]; exact fun q => c27 ((nI_z (by omega)).mp q)) e33] at kk
            exact kk
          | 2, _, e33 =>
            refine x_tabi (pc := 33) (i := 2) (t := 84) rfl rfl e33 ?_
            refine x_al1 (pc := 84) rfl rfl ?_
            refine g_1_2 (pc := 85) rfl rfl ?_
            refine x_il1 (pc := 88) rfl rfl ?_
            refine aal (pc := 89) (q := 1) (a := 18) rfl rfl (by decide) rfl ?_
            refine g_18_4 (pc := 90) rfl rfl ?_
            refine x_il1 (pc := 93) rfl rfl ?_
            refine al_22 (pc := 94) (q := p) (v := (A 37) p) rfl rfl hp rfl ?_
            refine x_ret (pc := 95) rfl rfl ?_
            rw [show kn _ _ _ w = _ from kn_o (by rw [hm]; exact fun q => c27 ((nI_z (by omega)).mp q)) e33] at kk
            exact kk
      · have c27 : _ := c27
        have c27 : m = 0 := Classical.byContradiction fun q => absurd c27 (by rw [if_neg q]; decide)
        refine x_const (pc := 30) (pc' := 31) (.int (-1)) rfl rfl rfl rfl ?_
        refine x_ret (pc := 31) rfl rfl ?_
        rw [show kn _ _ _ w = _ from kn_0 _ _ _ (by rw [hm, c27]; rfl)] at kk
        exact kk
set_option maxRecDepth 100000 in
set_option maxHeartbeats 4000000 in
theorem k_53_2 {p m : Nat} (hp : p < 8) (hm : A 40 p = nI m) (hm5 : m < 5) {Q : mO × mHp → Prop} (kk : Q (.inl (some (.int (nI (if m = 0 then 0 else 1)))), hS n u I A J B mk sn L xs X)) : mq 53 0 [some (.ref 23), some (.int (nI p))] [] (hS n u I A J B mk sn L xs X) Q := by
  refine x_il1 (pc := 0) rfl rfl ?_
  refine x_ifN_lt (pc := 1) (t := 23) rfl rfl (by omega) ?_
  refine x_il1 (pc := 4) rfl rfl ?_
  refine x_const (pc := 5) (pc' := 7) (.int (nI 8)) rfl rfl rfl rfl ?_
  refine x_cmpN_ge (pc := 7) (t := 23) rfl rfl (by omega) (by omega) (fun c7 => ?_) (fun c7 => ?_)
  · omega
  · refine x_al1 (pc := 10) rfl rfl ?_
    refine g_23_3 (pc := 11) rfl rfl ?_
    refine x_il1 (pc := 14) rfl rfl ?_
    refine al_26 (pc := 15) (q := p) (v := nI m) rfl rfl hp hm ?_
    refine x_ifN_le (pc := 16) (t := 23) rfl rfl (by omega) (fun c16 => ?_) (fun c16 => ?_)
    · refine x_const (pc := 23) (pc' := 24) (.int (nI 0)) rfl rfl rfl rfl ?_
      refine x_ret (pc := 24) rfl rfl ?_
      rw [if_pos c16] at kk
      exact kk
    · refine x_const (pc := 19) (pc' := 20) (.int (nI 1)) rfl rfl rfl rfl ?_
      refine x_step (pc := 20) (pc' := 24) rfl rfl rfl rfl ?_
      refine x_ret (pc := 24) rfl rfl ?_
      rw [if_neg (by omega)] at kk
      exact kk
set_option maxRecDepth 100000 in
set_option maxHeartbeats 4000000 in
theorem k_53b_2 {p : Int32} (hx : p < 0 ∨ nI 8 ≤ p) {Q : mO × mHp → Prop} (kk : Q (.inl (some (.int (nI 0))), hS n u I A J B mk sn L xs X)) : mq 53 0 [some (.ref 23), some (.int p)] [] (hS n u I A J B mk sn L xs X) Q := by
  refine x_il1 (pc := 0) rfl rfl ?_
  refine x_if_lt (pc := 1) (t := 23) rfl rfl rfl (fun c1 => ?_) (fun c1 => ?_)
  · refine x_const (pc := 23) (pc' := 24) (.int (nI 0)) rfl rfl rfl rfl ?_
    refine x_ret (pc := 24) rfl rfl ?_
    exact kk
  · refine x_il1 (pc := 4) rfl rfl ?_
    refine x_const (pc := 5) (pc' := 7) (.int (nI 8)) rfl rfl rfl rfl ?_
    refine x_cmp_ge (pc := 7) (t := 23) rfl rfl rfl (fun c7 => ?_) (fun c7 => ?_)
    · refine x_const (pc := 23) (pc' := 24) (.int (nI 0)) rfl rfl rfl rfl ?_
      refine x_ret (pc := 24) rfl rfl ?_
      exact kk
    · exact absurd hx (fun q => q.elim c1 c7)
set_option maxRecDepth 100000 in
set_option maxHeartbeats 4000000 in
theorem k_52_2 {p m : Nat} {w : Int32} (hp : p < 8) (hm : A 40 p = nI m) (hm5 : m < 5) {Q : mO × mHp → Prop} (kk : Q (.inl (some (.int (kn (A 39 p) (A 40 p) (A 41 p) w))), hS n u I A J B mk sn L xs X)) : mq 52 0 [some (.ref 1), some (.int (nI 2)), some (.int (nI p)), some (.int w)] [] (hS n u I A J B mk sn L xs X) Q := by
  refine x_il1 (pc := 0) rfl rfl ?_
  refine x_k (pc := 1) rfl rfl rfl ⟨Nat.le_of_ble_eq_true rfl, Nat.le_of_ble_eq_true rfl, Nat.le_of_ble_eq_true rfl⟩ rfl (k_48 (by decide) ?_)
  show mq 52 4 [some (.ref 1), some (.int (nI 2)), some (.int (nI p)), some (.int w)] [.int (nI 1)] (hS n u I A J B mk sn L xs X) _
  refine x_ifN_eq (pc := 4) (t := 30) rfl rfl (by omega) (fun c4 => ?_) (fun c4 => ?_)
  · exact absurd c4 (by decide)
  · refine x_il1 (pc := 7) rfl rfl ?_
    refine x_ifN_lt (pc := 8) (t := 30) rfl rfl (by omega) ?_
    refine x_il1 (pc := 11) rfl rfl ?_
    refine x_const (pc := 12) (pc' := 14) (.int (nI 8)) rfl rfl rfl rfl ?_
    refine x_cmpN_ge (pc := 14) (t := 30) rfl rfl (by omega) (by omega) (fun c14 => ?_) (fun c14 => ?_)
    · omega
    · refine x_al1 (pc := 17) rfl rfl ?_
      refine g_1_2 (pc := 18) rfl rfl ?_
      refine x_il1 (pc := 21) rfl rfl ?_
      refine aal (pc := 22) (q := 2) (a := 23) rfl rfl (by decide) rfl ?_
      refine x_il1 (pc := 23) rfl rfl ?_
      refine x_k (pc := 24) rfl rfl rfl ⟨Nat.le_of_ble_eq_true rfl, Nat.le_of_ble_eq_true rfl, Nat.le_of_ble_eq_true rfl⟩ rfl (k_53_2 hp hm hm5 ?_)
      show mq 52 27 [some (.ref 1), some (.int (nI 2)), some (.int (nI p)), some (.int w)] [.int (nI (if m = 0 then 0 else 1))] (hS n u I A J B mk sn L xs X) _
      refine x_ifN_ne (pc := 27) (t := 32) rfl rfl (by split <;> omega) (fun c27 => ?_) (fun c27 => ?_)
      · have c27 : _ := c27
        have c27 : ¬ m = 0 := fun q => c27 (if_pos q)
        refine x_il1 (pc := 32) rfl rfl ?_
        rcases pk_ix w (n := 3) (by decide) with c33 | c33 | ⟨j33, c33, e33⟩
        · refine x_tabd (pc := 33) (t := 96) rfl rfl (Or.inl (tab_lt c33)) ?_
          refine x_const (pc := 96) (pc' := 97) (.int (-1)) rfl rfl rfl rfl ?_
          refine x_ret (pc := 97) rfl rfl ?_
          rw [show kn _ _ _ w = _ from kn_n (by first | exact Or.inl c33 | exact Or.inr c33)] at kk
          exact kk
        · refine x_tabd (pc := 33) (t := 96) rfl rfl (Or.inr (tab_ge (n := 2) (by decide) c33)) ?_
          refine x_const (pc := 96) (pc' := 97) (.int (-1)) rfl rfl rfl rfl ?_
          refine x_ret (pc := 97) rfl rfl ?_
          rw [show kn _ _ _ w = _ from kn_n (by first | exact Or.inl c33 | exact Or.inr c33)] at kk
          exact kk
        · match j33, c33, e33 with
          | 0, _, e33 =>
            refine x_tabi (pc := 33) (i := 0) (t := 60) rfl rfl e33 ?_
            refine x_al1 (pc := 60) rfl rfl ?_
            refine g_1_2 (pc := 61) rfl rfl ?_
            refine x_il1 (pc := 64) rfl rfl ?_
            refine aal (pc := 65) (q := 2) (a := 23) rfl rfl (by decide) rfl ?_
            refine g_23_2 (pc := 66) rfl rfl ?_
            refine x_il1 (pc := 69) rfl rfl ?_
            refine al_25 (pc := 70) (q := p) (v := (A 39) p) rfl rfl hp rfl ?_
            refine x_ret (pc := 71) rfl rfl ?_
            rw [show kn _ _ _ w = _ from kn_s (by rw [hm]; exact fun q => c27 ((nI_z (by omega)).mp q)) e33] at kk
            exact kk
          | 1, _, e33 =>
            refine x_tabi (pc := 33) (i := 1) (t := 72) rfl rfl e33 ?_
            refine x_al1 (pc := 72) rfl rfl ?_
            refine g_1_2 (pc := 73) rfl rfl ?_
            refine x_il1 (pc := 76) rfl rfl ?_
            refine aal (pc := 77) (q := 2) (a := 23) rfl rfl (by decide) rfl ?_
            refine g_23_3 (pc := 78) rfl rfl ?_
            refine x_il1 (pc := 81) rfl rfl ?_
            refine al_26 (pc := 82) (q := p) (v := (A 40) p) rfl rfl hp rfl ?_
            refine x_ret (pc := 83) rfl rfl ?_
            rw [show kn _ _ _ w = _ from kn_c (by rw [hm]; exact fun q => c27 ((nI_z (by omega)).mp q)) e33] at kk
            exact kk
          | 2, _, e33 =>
            refine x_tabi (pc := 33) (i := 2) (t := 84) rfl rfl e33 ?_
            refine x_al1 (pc := 84) rfl rfl ?_
            refine g_1_2 (pc := 85) rfl rfl ?_
            refine x_il1 (pc := 88) rfl rfl ?_
            refine aal (pc := 89) (q := 2) (a := 23) rfl rfl (by decide) rfl ?_
            refine g_23_4 (pc := 90) rfl rfl ?_
            refine x_il1 (pc := 93) rfl rfl ?_
            refine al_27 (pc := 94) (q := p) (v := (A 41) p) rfl rfl hp rfl ?_
            refine x_ret (pc := 95) rfl rfl ?_
            rw [show kn _ _ _ w = _ from kn_o (by rw [hm]; exact fun q => c27 ((nI_z (by omega)).mp q)) e33] at kk
            exact kk
      · have c27 : _ := c27
        have c27 : m = 0 := Classical.byContradiction fun q => absurd c27 (by rw [if_neg q]; decide)
        refine x_const (pc := 30) (pc' := 31) (.int (-1)) rfl rfl rfl rfl ?_
        refine x_ret (pc := 31) rfl rfl ?_
        rw [show kn _ _ _ w = _ from kn_0 _ _ _ (by rw [hm, c27]; rfl)] at kk
        exact kk
set_option maxRecDepth 100000 in
set_option maxHeartbeats 4000000 in
theorem k_53_3 {p m : Nat} (hp : p < 8) (hm : A 44 p = nI m) (hm5 : m < 5) {Q : mO × mHp → Prop} (kk : Q (.inl (some (.int (nI (if m = 0 then 0 else 1)))), hS n u I A J B mk sn L xs X)) : mq 53 0 [some (.ref 28), some (.int (nI p))] [] (hS n u I A J B mk sn L xs X) Q := by
  refine x_il1 (pc := 0) rfl rfl ?_
  refine x_ifN_lt (pc := 1) (t := 23) rfl rfl (by omega) ?_
  refine x_il1 (pc := 4) rfl rfl ?_
  refine x_const (pc := 5) (pc' := 7) (.int (nI 8)) rfl rfl rfl rfl ?_
  refine x_cmpN_ge (pc := 7) (t := 23) rfl rfl (by omega) (by omega) (fun c7 => ?_) (fun c7 => ?_)
  · omega
  · refine x_al1 (pc := 10) rfl rfl ?_
    refine g_28_3 (pc := 11) rfl rfl ?_
    refine x_il1 (pc := 14) rfl rfl ?_
    refine al_31 (pc := 15) (q := p) (v := nI m) rfl rfl hp hm ?_
    refine x_ifN_le (pc := 16) (t := 23) rfl rfl (by omega) (fun c16 => ?_) (fun c16 => ?_)
    · refine x_const (pc := 23) (pc' := 24) (.int (nI 0)) rfl rfl rfl rfl ?_
      refine x_ret (pc := 24) rfl rfl ?_
      rw [if_pos c16] at kk
      exact kk
    · refine x_const (pc := 19) (pc' := 20) (.int (nI 1)) rfl rfl rfl rfl ?_
      refine x_step (pc := 20) (pc' := 24) rfl rfl rfl rfl ?_
      refine x_ret (pc := 24) rfl rfl ?_
      rw [if_neg (by omega)] at kk
      exact kk
set_option maxRecDepth 100000 in
set_option maxHeartbeats 4000000 in
theorem k_53b_3 {p : Int32} (hx : p < 0 ∨ nI 8 ≤ p) {Q : mO × mHp → Prop} (kk : Q (.inl (some (.int (nI 0))), hS n u I A J B mk sn L xs X)) : mq 53 0 [some (.ref 28), some (.int p)] [] (hS n u I A J B mk sn L xs X) Q := by
  refine x_il1 (pc := 0) rfl rfl ?_
  refine x_if_lt (pc := 1) (t := 23) rfl rfl rfl (fun c1 => ?_) (fun c1 => ?_)
  · refine x_const (pc := 23) (pc' := 24) (.int (nI 0)) rfl rfl rfl rfl ?_
    refine x_ret (pc := 24) rfl rfl ?_
    exact kk
  · refine x_il1 (pc := 4) rfl rfl ?_
    refine x_const (pc := 5) (pc' := 7) (.int (nI 8)) rfl rfl rfl rfl ?_
    refine x_cmp_ge (pc := 7) (t := 23) rfl rfl rfl (fun c7 => ?_) (fun c7 => ?_)
    · refine x_const (pc := 23) (pc' := 24) (.int (nI 0)) rfl rfl rfl rfl ?_
      refine x_ret (pc := 24) rfl rfl ?_
      exact kk
    · exact absurd hx (fun q => q.elim c1 c7)
set_option maxRecDepth 100000 in
set_option maxHeartbeats 4000000 in
theorem k_52_3 {p m : Nat} {w : Int32} (hp : p < 8) (hm : A 44 p = nI m) (hm5 : m < 5) {Q : mO × mHp → Prop} (kk : Q (.inl (some (.int (kn (A 43 p) (A 44 p) (A 45 p) w))), hS n u I A J B mk sn L xs X)) : mq 52 0 [some (.ref 1), some (.int (nI 3)), some (.int (nI p)), some (.int w)] [] (hS n u I A J B mk sn L xs X) Q := by
  refine x_il1 (pc := 0) rfl rfl ?_
  refine x_k (pc := 1) rfl rfl rfl ⟨Nat.le_of_ble_eq_true rfl, Nat.le_of_ble_eq_true rfl, Nat.le_of_ble_eq_true rfl⟩ rfl (k_48 (by decide) ?_)
  show mq 52 4 [some (.ref 1), some (.int (nI 3)), some (.int (nI p)), some (.int w)] [.int (nI 1)] (hS n u I A J B mk sn L xs X) _
  refine x_ifN_eq (pc := 4) (t := 30) rfl rfl (by omega) (fun c4 => ?_) (fun c4 => ?_)
  · exact absurd c4 (by decide)
  · refine x_il1 (pc := 7) rfl rfl ?_
    refine x_ifN_lt (pc := 8) (t := 30) rfl rfl (by omega) ?_
    refine x_il1 (pc := 11) rfl rfl ?_
    refine x_const (pc := 12) (pc' := 14) (.int (nI 8)) rfl rfl rfl rfl ?_
    refine x_cmpN_ge (pc := 14) (t := 30) rfl rfl (by omega) (by omega) (fun c14 => ?_) (fun c14 => ?_)
    · omega
    · refine x_al1 (pc := 17) rfl rfl ?_
      refine g_1_2 (pc := 18) rfl rfl ?_
      refine x_il1 (pc := 21) rfl rfl ?_
      refine aal (pc := 22) (q := 3) (a := 28) rfl rfl (by decide) rfl ?_
      refine x_il1 (pc := 23) rfl rfl ?_
      refine x_k (pc := 24) rfl rfl rfl ⟨Nat.le_of_ble_eq_true rfl, Nat.le_of_ble_eq_true rfl, Nat.le_of_ble_eq_true rfl⟩ rfl (k_53_3 hp hm hm5 ?_)
      show mq 52 27 [some (.ref 1), some (.int (nI 3)), some (.int (nI p)), some (.int w)] [.int (nI (if m = 0 then 0 else 1))] (hS n u I A J B mk sn L xs X) _
      refine x_ifN_ne (pc := 27) (t := 32) rfl rfl (by split <;> omega) (fun c27 => ?_) (fun c27 => ?_)
      · have c27 : _ := c27
        have c27 : ¬ m = 0 := fun q => c27 (if_pos q)
        refine x_il1 (pc := 32) rfl rfl ?_
        rcases pk_ix w (n := 3) (by decide) with c33 | c33 | ⟨j33, c33, e33⟩
        · refine x_tabd (pc := 33) (t := 96) rfl rfl (Or.inl (tab_lt c33)) ?_
          refine x_const (pc := 96) (pc' := 97) (.int (-1)) rfl rfl rfl rfl ?_
          refine x_ret (pc := 97) rfl rfl ?_
          rw [show kn _ _ _ w = _ from kn_n (by first | exact Or.inl c33 | exact Or.inr c33)] at kk
          exact kk
        · refine x_tabd (pc := 33) (t := 96) rfl rfl (Or.inr (tab_ge (n := 2) (by decide) c33)) ?_
          refine x_const (pc := 96) (pc' := 97) (.int (-1)) rfl rfl rfl rfl ?_
          refine x_ret (pc := 97) rfl rfl ?_
          rw [show kn _ _ _ w = _ from kn_n (by first | exact Or.inl c33 | exact Or.inr c33)] at kk
          exact kk
        · match j33, c33, e33 with
          | 0, _, e33 =>
            refine x_tabi (pc := 33) (i := 0) (t := 60) rfl rfl e33 ?_
            refine x_al1 (pc := 60) rfl rfl ?_
            refine g_1_2 (pc := 61) rfl rfl ?_
            refine x_il1 (pc := 64) rfl rfl ?_
            refine aal (pc := 65) (q := 3) (a := 28) rfl rfl (by decide) rfl ?_
            refine g_28_2 (pc := 66) rfl rfl ?_
            refine x_il1 (pc := 69) rfl rfl ?_
            refine al_30 (pc := 70) (q := p) (v := (A 43) p) rfl rfl hp rfl ?_
            refine x_ret (pc := 71) rfl rfl ?_
            rw [show kn _ _ _ w = _ from kn_s (by rw [hm]; exact fun q => c27 ((nI_z (by omega)).mp q)) e33] at kk
            exact kk
          | 1, _, e33 =>
            refine x_tabi (pc := 33) (i := 1) (t := 72) rfl rfl e33 ?_
            refine x_al1 (pc := 72) rfl rfl ?_
            refine g_1_2 (pc := 73) rfl rfl ?_
            refine x_il1 (pc := 76) rfl rfl ?_
            refine aal (pc := 77) (q := 3) (a := 28) rfl rfl (by decide) rfl ?_
            refine g_28_3 (pc := 78) rfl rfl ?_
            refine x_il1 (pc := 81) rfl rfl ?_
            refine al_31 (pc := 82) (q := p) (v := (A 44) p) rfl rfl hp rfl ?_
            refine x_ret (pc := 83) rfl rfl ?_
            rw [show kn _ _ _ w = _ from kn_c (by rw [hm]; exact fun q => c27 ((nI_z (by omega)).mp q)) e33] at kk
            exact kk
          | 2, _, e33 =>
            refine x_tabi (pc := 33) (i := 2) (t := 84) rfl rfl e33 ?_
            refine x_al1 (pc := 84) rfl rfl ?_
            refine g_1_2 (pc := 85) rfl rfl ?_
            refine x_il1 (pc := 88) rfl rfl ?_
            refine aal (pc := 89) (q := 3) (a := 28) rfl rfl (by decide) rfl ?_
            refine g_28_4 (pc := 90) rfl rfl ?_
            refine x_il1 (pc := 93) rfl rfl ?_
            refine al_32 (pc := 94) (q := p) (v := (A 45) p) rfl rfl hp rfl ?_
            refine x_ret (pc := 95) rfl rfl ?_
            rw [show kn _ _ _ w = _ from kn_o (by rw [hm]; exact fun q => c27 ((nI_z (by omega)).mp q)) e33] at kk
            exact kk
      · have c27 : _ := c27
        have c27 : m = 0 := Classical.byContradiction fun q => absurd c27 (by rw [if_neg q]; decide)
        refine x_const (pc := 30) (pc' := 31) (.int (-1)) rfl rfl rfl rfl ?_
        refine x_ret (pc := 31) rfl rfl ?_
        rw [show kn _ _ _ w = _ from kn_0 _ _ _ (by rw [hm, c27]; rfl)] at kk
        exact kk
set_option maxRecDepth 100000 in
set_option maxHeartbeats 4000000 in
theorem k_52b {l p w : Int32} (hx : l < 0 ∨ nI 4 ≤ l) {Q : mO × mHp → Prop} (kk : Q (.inl (some (.int (-1))), hS n u I A J B mk sn L xs X)) : mq 52 0 [some (.ref 1), some (.int l), some (.int p), some (.int w)] [] (hS n u I A J B mk sn L xs X) Q := by
  refine x_il1 (pc := 0) rfl rfl ?_
  refine x_k (pc := 1) rfl rfl rfl ⟨Nat.le_of_ble_eq_true rfl, Nat.le_of_ble_eq_true rfl, Nat.le_of_ble_eq_true rfl⟩ rfl (k_48b hx ?_)
  show mq 52 4 [some (.ref 1), some (.int l), some (.int p), some (.int w)] [.int (nI 0)] (hS n u I A J B mk sn L xs X) _
  refine x_ifN_eq (pc := 4) (t := 30) rfl rfl (by omega) (fun c4 => ?_) (fun c4 => ?_)
  · refine x_const (pc := 30) (pc' := 31) (.int (-1)) rfl rfl rfl rfl ?_
    refine x_ret (pc := 31) rfl rfl ?_
    exact kk
  · exact absurd rfl c4
set_option maxRecDepth 100000 in
set_option maxHeartbeats 4000000 in
theorem k_52c {l : Nat} {p w : Int32} (hl : l < 4) (hx : p < 0 ∨ nI 8 ≤ p) {Q : mO × mHp → Prop} (kk : Q (.inl (some (.int (-1))), hS n u I A J B mk sn L xs X)) : mq 52 0 [some (.ref 1), some (.int (nI l)), some (.int p), some (.int w)] [] (hS n u I A J B mk sn L xs X) Q := by
  refine x_il1 (pc := 0) rfl rfl ?_
  refine x_k (pc := 1) rfl rfl rfl ⟨Nat.le_of_ble_eq_true rfl, Nat.le_of_ble_eq_true rfl, Nat.le_of_ble_eq_true rfl⟩ rfl (k_48 hl ?_)
  show mq 52 4 [some (.ref 1), some (.int (nI l)), some (.int p), some (.int w)] [.int (nI 1)] (hS n u I A J B mk sn L xs X) _
  refine x_ifN_eq (pc := 4) (t := 30) rfl rfl (by omega) (fun c4 => ?_) (fun c4 => ?_)
  · exact absurd c4 (by decide)
  · refine x_il1 (pc := 7) rfl rfl ?_
    refine x_if_lt (pc := 8) (t := 30) rfl rfl rfl (fun c8 => ?_) (fun c8 => ?_)
    · refine x_const (pc := 30) (pc' := 31) (.int (-1)) rfl rfl rfl rfl ?_
      refine x_ret (pc := 31) rfl rfl ?_
      exact kk
    · refine x_il1 (pc := 11) rfl rfl ?_
      refine x_const (pc := 12) (pc' := 14) (.int (nI 8)) rfl rfl rfl rfl ?_
      refine x_cmp_ge (pc := 14) (t := 30) rfl rfl rfl (fun c14 => ?_) (fun c14 => ?_)
      · refine x_const (pc := 30) (pc' := 31) (.int (-1)) rfl rfl rfl rfl ?_
        refine x_ret (pc := 31) rfl rfl ?_
        exact kk
      · exact absurd hx (fun q => q.elim c8 c14)
end S32
