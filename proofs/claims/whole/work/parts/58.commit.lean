/-! commit: the class. -/
theorem BT_1 {b : Nat} {I : Nat → Int32} {A : Nat → Nat → Int32} {p q x0 x1 x2 x3 x4 : Int32} (h1 : I (20 + 3 * b) = p) (h2 : I (21 + 3 * b) = q) (h3 : I (22 + 3 * b) = nI 1) (a0 : A (10 + 5 * b) 0 = x0) (a1 : A (11 + 5 * b) 0 = x1) (a2 : A (12 + 5 * b) 0 = x2) (a3 : A (13 + 5 * b) 0 = x3) (a4 : A (14 + 5 * b) 0 = x4) : BT b I A [(x0, x1, x2, x3, x4)] p q := by
  refine ⟨h1, h2, h3, fun k hk => ?_⟩
  have h9 : k < 1 := hk
  have h8 : k = 0 := by omega
  subst h8
  exact ⟨a0, a1, a2, a3, a4⟩
section S58
variable {n u : Nat} {I : Nat → Int32} {A : Nat → Nat → Int32} {J : Int64} {B : Nat → Int64} {mk sn L : Nat} {xs : Nat → Int32} {X : Nat → mC} {D : Nat → Nat} 
set_option maxRecDepth 100000 in
set_option maxHeartbeats 4000000 in
theorem k_88x (h0 : I 0 = nI 0) {g l o : Int32} (hn : 77 ≤ n ∧ n < 10000) (hu : u + 6 < 1000000) {Q : mO × mHp → Prop} (kk : Q (.inr n, hS (n + 1) (u + 6) I A J B mk sn L xs (va_up X n (.inr (9, []))))) : mq 88 0 [some (.ref 1), some (.int g), some (.int l), some (.int o), none] [] (hS n u I A J B mk sn L xs X) Q := by
  refine x_al1 (pc := 0) rfl rfl ?_
  refine x_k (pc := 1) rfl rfl rfl ⟨Nat.le_of_ble_eq_true rfl, Nat.le_of_ble_eq_true rfl, Nat.le_of_ble_eq_true rfl⟩ rfl (k_60x (I := I) h0 hn hu (mK_x rfl kk))
set_option maxRecDepth 100000 in
set_option maxHeartbeats 4000000 in
theorem k_88b {S : DS} (hD : kD mk S I A) (ho : dO S = false) {g l o : Int32} (hx : (g < 0 ∨ nI 8 ≤ g) ∨ (l < 0 ∨ nI 3 ≤ l)) (hn : 77 ≤ n ∧ n < 10000) (hu : u + 6 < 1000000) {Q : mO × mHp → Prop} (kk : Q (.inr n, hS (n + 1) (u + 6) I A J B mk sn L xs (va_up X n (.inr (10, []))))) : mq 88 0 [some (.ref 1), some (.int g), some (.int l), some (.int o), none] [] (hS n u I A J B mk sn L xs X) Q := by
  refine x_al1 (pc := 0) rfl rfl ?_
  refine x_k (pc := 1) rfl rfl rfl ⟨Nat.le_of_ble_eq_true rfl, Nat.le_of_ble_eq_true rfl, Nat.le_of_ble_eq_true rfl⟩ rfl (k_60 (I := I) (kD_1 hD ho) ?_)
  show mq 88 4 [some (.ref 1), some (.int g), some (.int l), some (.int o), none] [] (hS n u I A J B mk sn L xs X) _
  refine x_il1 (pc := 4) rfl rfl ?_
  refine x_il1 (pc := 5) rfl rfl ?_
  refine x_k (pc := 6) rfl rfl rfl ⟨Nat.le_of_ble_eq_true rfl, Nat.le_of_ble_eq_true rfl, Nat.le_of_ble_eq_true rfl⟩ rfl (k_89b (I := I) (A := A) hx ?_)
  show mq 88 9 [some (.ref 1), some (.int g), some (.int l), some (.int o), none] [.int (nI 0)] (hS n u I A J B mk sn L xs X) _
  refine x_ifN_ne (pc := 9) (t := 22) rfl rfl (by decide) (fun c => absurd c (by decide)) (fun _ => ?_)
  refine x_thr (pc := 12) rfl rfl hn hu rfl ⟨Nat.le_of_ble_eq_true rfl, Nat.le_of_ble_eq_true rfl⟩ ?_
  exact kk
set_option maxRecDepth 100000 in
set_option maxHeartbeats 4000000 in
theorem k_88o_0 {S : DS} (hD : kD mk S I A) (ho : dO S = false) {g : Nat} {o x y : Int32} (hg : g < 8) (ha : I 41 = x) (hb : I 42 = y) (hx : o < x ∨ ¬ o ≤ y) (hn : 77 ≤ n ∧ n < 10000) (hu : u + 6 < 1000000) {Q : mO × mHp → Prop} (kk : Q (.inr n, hS (n + 1) (u + 6) I A J B mk sn L xs (va_up X n (.inr (12, []))))) : mq 88 0 [some (.ref 1), some (.int (nI g)), some (.int (nI 0)), some (.int o), none] [] (hS n u I A J B mk sn L xs X) Q := by
  refine x_al1 (pc := 0) rfl rfl ?_
  refine x_k (pc := 1) rfl rfl rfl ⟨Nat.le_of_ble_eq_true rfl, Nat.le_of_ble_eq_true rfl, Nat.le_of_ble_eq_true rfl⟩ rfl (k_60 (I := I) (kD_1 hD ho) ?_)
  show mq 88 4 [some (.ref 1), some (.int (nI g)), some (.int (nI 0)), some (.int o), none] [] (hS n u I A J B mk sn L xs X) _
  refine x_il1 (pc := 4) rfl rfl ?_
  refine x_il1 (pc := 5) rfl rfl ?_
  refine x_k (pc := 6) rfl rfl rfl ⟨Nat.le_of_ble_eq_true rfl, Nat.le_of_ble_eq_true rfl, Nat.le_of_ble_eq_true rfl⟩ rfl (k_89 (I := I) (A := A) hg (by decide) ?_)
  show mq 88 9 [some (.ref 1), some (.int (nI g)), some (.int (nI 0)), some (.int o), none] [.int (nI 1)] (hS n u I A J B mk sn L xs X) _
  refine x_ifN_ne (pc := 9) (t := 22) rfl rfl (by decide) (fun _ => ?_) (fun c => absurd c (by decide))
  refine x_al1 (pc := 22) rfl rfl ?_
  refine x_al1 (pc := 23) rfl rfl ?_
  refine g_1_2 (pc := 24) rfl rfl ?_
  refine x_il1 (pc := 27) rfl rfl ?_
  refine aal (pc := 28) (q := 0) (a := 13) rfl rfl (by decide) rfl ?_
  refine x_il1 (pc := 29) rfl rfl ?_
  refine x_k (pc := 30) rfl rfl rfl ⟨Nat.le_of_ble_eq_true rfl, Nat.le_of_ble_eq_true rfl, Nat.le_of_ble_eq_true rfl⟩ rfl (k_77x_0 ha hb hx hn hu (mK_x rfl kk))
set_option maxRecDepth 100000 in
set_option maxHeartbeats 4000000 in
theorem k_88_53_0 {S : DS} (hD : kD 60 S I A) (ho : dO S = false) {g : Nat} {o x y : Int32} (hg : g < 8) (ha : I 41 = x) (hb : I 42 = y) (hx1 : ¬ o < x) (hx2 : o ≤ y) {cn N : Nat} {f : Nat → Nat} (hcn : cn ≤ 16) (hc : I 49 = nI cn) (hf : ∀ k, k < cn → f k < 16) (hsl : ∀ j, j < cn → A 42 j = nI (f j)) (hN : I 51 = nI N) (hNb : N + 4 < 2 ^ 31) (hroom : frS (dD S) 16 0 = -1 ∨ cn < 16) (hn : 77 ≤ n ∧ n < 10000) (hu : u + 6 < 1000000) {Q : mO × mHp → Prop} (kk : ∀ S' f' cn', apS S 3 f cn N (nI 255) (nI 0) (nmb N [(nI 0, nI 0, nI (4 * g + 0), o, nI 0)]) = some (S', f', cn') → dO S' = false → ∀ I' A', Fr [2, 3, 14, 15, 49, 51, 26, 27, 28] I I' → Fr [0, 1, 3, 4, 42, 20, 21, 22, 23, 24] A A' → kD 60 S' I' A' → I' 51 = nI (N + 1) → I' 49 = nI cn' → (∀ j, j < cn' → A' 42 j = nI (f' j)) → A' 1 = upd (A 1) (4 * g + 0) o → Q (.inl none, hS n u I' A' J B 60 53 L xs X)) (kx : ∀ S' f' cn', apS S 3 f cn N (nI 255) (nI 0) (nmb N [(nI 0, nI 0, nI (4 * g + 0), o, nI 0)]) = some (S', f', cn') → dO S' = true → ∀ I' A', Up 60 I I' → Up 50 A A' → kD 60 S' I' A' → Q (.inr n, hS (n + 1) (u + 6) I' A' J B 60 53 L xs (va_up X n (.inr (9, []))))) (kr : apS S 3 f cn N (nI 255) (nI 0) (nmb N [(nI 0, nI 0, nI (4 * g + 0), o, nI 0)]) = none → ∀ I' A', Fr [14, 26, 27, 28] I I' → Fr [3, 20, 21, 22, 23, 24] A A' → Q (.inr n, hS (n + 1) (u + 6) I' A' J B 60 53 L xs (va_up X n (.inr (11, []))))) : mq 88 0 [some (.ref 1), some (.int (nI g)), some (.int (nI 0)), some (.int o), none] [] (hS n u I A J B 60 53 L xs X) Q := by
  refine x_al1 (pc := 0) rfl rfl ?_
  refine x_k (pc := 1) rfl rfl rfl ⟨Nat.le_of_ble_eq_true rfl, Nat.le_of_ble_eq_true rfl, Nat.le_of_ble_eq_true rfl⟩ rfl (k_60 (I := I) (kD_1 hD ho) ?_)
  show mq 88 4 [some (.ref 1), some (.int (nI g)), some (.int (nI 0)), some (.int o), none] [] (hS n u I A J B 60 53 L xs X) _
  refine x_il1 (pc := 4) rfl rfl ?_
  refine x_il1 (pc := 5) rfl rfl ?_
  refine x_k (pc := 6) rfl rfl rfl ⟨Nat.le_of_ble_eq_true rfl, Nat.le_of_ble_eq_true rfl, Nat.le_of_ble_eq_true rfl⟩ rfl (k_89 (I := I) (A := A) hg (by decide) ?_)
  show mq 88 9 [some (.ref 1), some (.int (nI g)), some (.int (nI 0)), some (.int o), none] [.int (nI 1)] (hS n u I A J B 60 53 L xs X) _
  refine x_ifN_ne (pc := 9) (t := 22) rfl rfl (by decide) (fun _ => ?_) (fun c => absurd c (by decide))
  refine x_al1 (pc := 22) rfl rfl ?_
  refine x_al1 (pc := 23) rfl rfl ?_
  refine g_1_2 (pc := 24) rfl rfl ?_
  refine x_il1 (pc := 27) rfl rfl ?_
  refine aal (pc := 28) (q := 0) (a := 13) rfl rfl (by decide) rfl ?_
  refine x_il1 (pc := 29) rfl rfl ?_
  refine x_k (pc := 30) rfl rfl rfl ⟨Nat.le_of_ble_eq_true rfl, Nat.le_of_ble_eq_true rfl, Nat.le_of_ble_eq_true rfl⟩ rfl (k_77_0 (I := I) (A := A) ha hb hx1 hx2 ?_)
  show mq 88 33 [some (.ref 1), some (.int (nI g)), some (.int (nI 0)), some (.int o), none] [] (hS n u I A J B 60 53 L xs X) _
  refine x_const (pc := 33) (pc' := 34) (.int (nI 4)) rfl rfl rfl rfl ?_
  refine x_il1 (pc := 34) rfl rfl ?_
  refine x_imulN (pc := 35) (c := 4 * g) rfl rfl ?_
  refine x_il1 (pc := 36) rfl rfl ?_
  refine x_iaddN (pc := 37) (c := (4 * g) + 0) rfl rfl ?_
  refine x_is2 (pc := 38) (ml' := [some (.ref 1), some (.int (nI g)), some (.int (nI 0)), some (.int o), some (.int (nI ((4 * g) + 0)))]) rfl rfl ?_
  refine x_al1 (pc := 40) rfl rfl ?_
  refine g_1_10 (pc := 41) rfl rfl ?_
  refine g_53_0 (pc := 44) rfl rfl ?_
  refine x_const (pc := 47) (pc' := 48) (.int (nI 0)) rfl rfl rfl rfl ?_
  refine p_54_5 (pc := 48) rfl rfl ?_
  refine x_al1 (pc := 51) rfl rfl ?_
  refine g_1_10 (pc := 52) rfl rfl ?_
  refine x_const (pc := 55) (pc' := 58) (.int (nI 255)) rfl rfl rfl rfl ?_
  refine x_const (pc := 58) (pc' := 59) (.int (nI 0)) rfl rfl rfl rfl ?_
  refine x_k (pc := 59) rfl rfl rfl ⟨Nat.le_of_ble_eq_true rfl, Nat.le_of_ble_eq_true rfl, Nat.le_of_ble_eq_true rfl⟩ rfl (mq_k (c_43_2 (I := va_up I 28 (nI 0)) (A := A) _ _) ?_)
  show mq 88 62 [some (.ref 1), some (.int (nI g)), some (.int (nI 0)), some (.int o), some (.int (nI ((4 * g) + 0)))] [] (hS n u (va_up (va_up (va_up I 28 (nI 0)) 26 (nI 255)) 27 (nI 0)) A J B 60 53 L xs X) _
  refine x_al1 (pc := 62) rfl rfl ?_
  refine g_1_10 (pc := 63) rfl rfl ?_
  refine g_53_0 (pc := 66) rfl rfl ?_
  refine x_const (pc := 69) (pc' := 70) (.int (nI 0)) rfl rfl rfl rfl ?_
  refine x_const (pc := 70) (pc' := 71) (.int (nI 0)) rfl rfl rfl rfl ?_
  refine x_il2 (pc := 71) rfl rfl ?_
  refine x_il1 (pc := 73) rfl rfl ?_
  refine x_const (pc := 74) (pc' := 75) (.int (nI 0)) rfl rfl rfl rfl ?_
  refine x_k (pc := 75) rfl rfl rfl ⟨Nat.le_of_ble_eq_true rfl, Nat.le_of_ble_eq_true rfl, Nat.le_of_ble_eq_true rfl⟩ rfl (mq_k (c_12_54 (I := va_up (va_up (va_up I 28 (nI 0)) 26 (nI 255)) 27 (nI 0)) (A := A) (m := 0) rfl (by decide) _ _ _ _ _) ?_)
  show mq 88 78 [some (.ref 1), some (.int (nI g)), some (.int (nI 0)), some (.int o), some (.int (nI ((4 * g) + 0)))] [.int 1] (hS n u (va_up (va_up (va_up (va_up I 28 (nI 0)) 26 (nI 255)) 27 (nI 0)) 28 (nI 1)) (va_up (va_up (va_up (va_up (va_up A 20 (upd (A 20) 0 (nI 0))) 21 (upd (A 21) 0 (nI 0))) 22 (upd (A 22) 0 (nI (4 * g + 0)))) 23 (upd (A 23) 0 o)) 24 (upd (A 24) 0 (nI 0))) J B 60 53 L xs X) _
  refine x_step (pc := 78) (pc' := 79) (st' := []) rfl rfl rfl rfl ?_
  refine x_al1 (pc := 79) rfl rfl ?_
  refine x_al1 (pc := 80) rfl rfl ?_
  refine g_1_2 (pc := 81) rfl rfl ?_
  refine x_const (pc := 84) (pc' := 85) (.int (nI 3)) rfl rfl rfl rfl ?_
  refine aal (pc := 85) (q := 3) (a := 28) rfl rfl (by decide) rfl ?_
  refine x_al1 (pc := 86) rfl rfl ?_
  refine g_1_10 (pc := 87) rfl rfl ?_
  refine x_k (pc := 90) rfl rfl rfl ⟨Nat.le_of_ble_eq_true rfl, Nat.le_of_ble_eq_true rfl, Nat.le_of_ble_eq_true rfl⟩ rfl (k_63_3_2 (mk := 60) (sn := 53) (I := va_up (va_up (va_up (va_up I 28 (nI 0)) 26 (nI 255)) 27 (nI 0)) 28 (nI 1)) (A := va_up (va_up (va_up (va_up (va_up A 20 (upd (A 20) 0 (nI 0))) 21 (upd (A 21) 0 (nI 0))) 22 (upd (A 22) 0 (nI (4 * g + 0)))) 23 (upd (A 23) 0 o)) 24 (upd (A 24) 0 (nI 0))) (S := S) (f := f) (N := N) (l := [(nI 0, nI 0, nI (4 * g + 0), o, nI 0)]) (p := nI 255) (q := nI 0) (kD_on hD ho (show Fr [26, 27, 28] I (va_up (va_up (va_up (va_up I 28 (nI 0)) 26 (nI 255)) 27 (nI 0)) 28 (nI 1)) from (Fr_u (Fr_u (Fr_u (Fr_u (Fr_refl _ _) (by decide)) (by decide)) (by decide)) (by decide))) (show Fr [20, 21, 22, 23, 24] A (va_up (va_up (va_up (va_up (va_up A 20 (upd (A 20) 0 (nI 0))) 21 (upd (A 21) 0 (nI 0))) 22 (upd (A 22) 0 (nI (4 * g + 0)))) 23 (upd (A 23) 0 o)) 24 (upd (A 24) 0 (nI 0))) from (Fr_u (Fr_u (Fr_u (Fr_u (Fr_u (Fr_refl _ _) (by decide)) (by decide)) (by decide)) (by decide)) (by decide))) (by decide) (by decide)) ho (Or.inr ⟨rfl, rfl⟩) hn hu hcn hc hf hsl hN hNb (BT_1 rfl rfl rfl (show upd (A 20) 0 (nI 0) 0 = nI 0 from pk_us) (show upd (A 21) 0 (nI 0) 0 = nI 0 from pk_us) (show upd (A 22) 0 (nI (4 * g + 0)) 0 = nI (4 * g + 0) from pk_us) (show upd (A 23) 0 o 0 = o from pk_us) (show upd (A 24) 0 (nI 0) 0 = nI 0 from pk_us)) (show 1 ≤ 1 by decide) (show 1 ≤ 4 by decide) hroom (fun S6 f6 c6 e6 o6 I6 A6 x6 y6 h6 n6 b6 d6 s6 => ?_) (fun S6 f6 c6 e6 o6 I6 A6 x6 y6 h6 => mK_x rfl (kx S6 f6 c6 e6 o6 I6 A6 (Up_tr (Up_fr (show Fr [26, 27, 28] I (va_up (va_up (va_up (va_up I 28 (nI 0)) 26 (nI 255)) 27 (nI 0)) 28 (nI 1)) from (Fr_u (Fr_u (Fr_u (Fr_u (Fr_refl _ _) (by decide)) (by decide)) (by decide)) (by decide))) (by decide)) x6) (Up_tr (Up_fr (show Fr [20, 21, 22, 23, 24] A (va_up (va_up (va_up (va_up (va_up A 20 (upd (A 20) 0 (nI 0))) 21 (upd (A 21) 0 (nI 0))) 22 (upd (A 22) 0 (nI (4 * g + 0)))) 23 (upd (A 23) 0 o)) 24 (upd (A 24) 0 (nI 0))) from (Fr_u (Fr_u (Fr_u (Fr_u (Fr_u (Fr_refl _ _) (by decide)) (by decide)) (by decide)) (by decide)) (by decide))) (by decide)) y6) h6)) (fun e6 I6 A6 x6 y6 => mK_x rfl (kr e6 I6 A6 (Fr_cons (Fr_u (Fr_u (Fr_u (Fr_u (Fr_refl _ _) (by decide)) (by decide)) (by decide)) (by decide)) x6 (by decide)) (Fr_cons (Fr_u (Fr_u (Fr_u (Fr_u (Fr_u (Fr_refl _ _) (by decide)) (by decide)) (by decide)) (by decide)) (by decide)) y6 (by decide)))))
  show mq 88 93 [some (.ref 1), some (.int (nI g)), some (.int (nI 0)), some (.int o), some (.int (nI ((4 * g) + 0)))] [.int (nI N)] (hS n u I6 A6 J B 60 53 L xs X) _
  refine x_step (pc := 93) (pc' := 94) (st' := []) rfl rfl rfl rfl ?_
  refine x_al1 (pc := 94) rfl rfl ?_
  refine g_1_3 (pc := 95) rfl rfl ?_
  refine x_il2 (pc := 98) rfl rfl ?_
  refine x_il1 (pc := 100) rfl rfl ?_
  refine as_33 (pc := 101) (q := 4 * g + 0) rfl rfl (by omega) ?_
  refine x_ret (pc := 102) rfl rfl ?_
  exact kk S6 f6 c6 e6 o6 _ _ (Fr_cons (Fr_u (Fr_u (Fr_u (Fr_u (Fr_refl _ _) (by decide)) (by decide)) (by decide)) (by decide)) x6 (by decide)) (Fr_u (Fr_cons (Fr_u (Fr_u (Fr_u (Fr_u (Fr_u (Fr_refl _ _) (by decide)) (by decide)) (by decide)) (by decide)) (by decide)) y6 (by decide)) (by decide)) (kD_on h6 o6 (Fr_refl [] I6) (Fr_up A6 1 _) (by decide) (by decide)) n6 d6 s6 (show upd (A6 1) (4 * g + 0) o = _ by rw [y6 1 (by decide)]; rfl)
set_option maxRecDepth 100000 in
set_option maxHeartbeats 4000000 in
theorem k_88_60_0 {S : DS} (hD : kD 53 S I A) (ho : dO S = false) {g : Nat} {o x y : Int32} (hg : g < 8) (ha : I 41 = x) (hb : I 42 = y) (hx1 : ¬ o < x) (hx2 : o ≤ y) {cn N : Nat} {f : Nat → Nat} (hcn : cn ≤ 16) (hc : I 49 = nI cn) (hf : ∀ k, k < cn → f k < 16) (hsl : ∀ j, j < cn → A 42 j = nI (f j)) (hN : I 51 = nI N) (hNb : N + 4 < 2 ^ 31) (hroom : frS (dD S) 16 0 = -1 ∨ cn < 16) (hn : 77 ≤ n ∧ n < 10000) (hu : u + 6 < 1000000) {Q : mO × mHp → Prop} (kk : ∀ S' f' cn', apS S 3 f cn N (nI 255) (nI 0) (nmb N [(nI 0, nI 0, nI (4 * g + 0), o, nI 0)]) = some (S', f', cn') → dO S' = false → ∀ I' A', Fr [2, 3, 14, 15, 49, 51, 29, 30, 31] I I' → Fr [0, 1, 3, 4, 42, 25, 26, 27, 28, 29] A A' → kD 53 S' I' A' → I' 51 = nI (N + 1) → I' 49 = nI cn' → (∀ j, j < cn' → A' 42 j = nI (f' j)) → A' 1 = upd (A 1) (4 * g + 0) o → Q (.inl none, hS n u I' A' J B 53 60 L xs X)) (kx : ∀ S' f' cn', apS S 3 f cn N (nI 255) (nI 0) (nmb N [(nI 0, nI 0, nI (4 * g + 0), o, nI 0)]) = some (S', f', cn') → dO S' = true → ∀ I' A', Up 60 I I' → Up 50 A A' → kD 53 S' I' A' → Q (.inr n, hS (n + 1) (u + 6) I' A' J B 53 60 L xs (va_up X n (.inr (9, []))))) (kr : apS S 3 f cn N (nI 255) (nI 0) (nmb N [(nI 0, nI 0, nI (4 * g + 0), o, nI 0)]) = none → ∀ I' A', Fr [14, 29, 30, 31] I I' → Fr [3, 25, 26, 27, 28, 29] A A' → Q (.inr n, hS (n + 1) (u + 6) I' A' J B 53 60 L xs (va_up X n (.inr (11, []))))) : mq 88 0 [some (.ref 1), some (.int (nI g)), some (.int (nI 0)), some (.int o), none] [] (hS n u I A J B 53 60 L xs X) Q := by
  refine x_al1 (pc := 0) rfl rfl ?_
  refine x_k (pc := 1) rfl rfl rfl ⟨Nat.le_of_ble_eq_true rfl, Nat.le_of_ble_eq_true rfl, Nat.le_of_ble_eq_true rfl⟩ rfl (k_60 (I := I) (kD_1 hD ho) ?_)
  show mq 88 4 [some (.ref 1), some (.int (nI g)), some (.int (nI 0)), some (.int o), none] [] (hS n u I A J B 53 60 L xs X) _
  refine x_il1 (pc := 4) rfl rfl ?_
  refine x_il1 (pc := 5) rfl rfl ?_
  refine x_k (pc := 6) rfl rfl rfl ⟨Nat.le_of_ble_eq_true rfl, Nat.le_of_ble_eq_true rfl, Nat.le_of_ble_eq_true rfl⟩ rfl (k_89 (I := I) (A := A) hg (by decide) ?_)
  show mq 88 9 [some (.ref 1), some (.int (nI g)), some (.int (nI 0)), some (.int o), none] [.int (nI 1)] (hS n u I A J B 53 60 L xs X) _
  refine x_ifN_ne (pc := 9) (t := 22) rfl rfl (by decide) (fun _ => ?_) (fun c => absurd c (by decide))
  refine x_al1 (pc := 22) rfl rfl ?_
  refine x_al1 (pc := 23) rfl rfl ?_
  refine g_1_2 (pc := 24) rfl rfl ?_
  refine x_il1 (pc := 27) rfl rfl ?_
  refine aal (pc := 28) (q := 0) (a := 13) rfl rfl (by decide) rfl ?_
  refine x_il1 (pc := 29) rfl rfl ?_
  refine x_k (pc := 30) rfl rfl rfl ⟨Nat.le_of_ble_eq_true rfl, Nat.le_of_ble_eq_true rfl, Nat.le_of_ble_eq_true rfl⟩ rfl (k_77_0 (I := I) (A := A) ha hb hx1 hx2 ?_)
  show mq 88 33 [some (.ref 1), some (.int (nI g)), some (.int (nI 0)), some (.int o), none] [] (hS n u I A J B 53 60 L xs X) _
  refine x_const (pc := 33) (pc' := 34) (.int (nI 4)) rfl rfl rfl rfl ?_
  refine x_il1 (pc := 34) rfl rfl ?_
  refine x_imulN (pc := 35) (c := 4 * g) rfl rfl ?_
  refine x_il1 (pc := 36) rfl rfl ?_
  refine x_iaddN (pc := 37) (c := (4 * g) + 0) rfl rfl ?_
  refine x_is2 (pc := 38) (ml' := [some (.ref 1), some (.int (nI g)), some (.int (nI 0)), some (.int o), some (.int (nI ((4 * g) + 0)))]) rfl rfl ?_
  refine x_al1 (pc := 40) rfl rfl ?_
  refine g_1_10 (pc := 41) rfl rfl ?_
  refine g_60_0 (pc := 44) rfl rfl ?_
  refine x_const (pc := 47) (pc' := 48) (.int (nI 0)) rfl rfl rfl rfl ?_
  refine p_61_5 (pc := 48) rfl rfl ?_
  refine x_al1 (pc := 51) rfl rfl ?_
  refine g_1_10 (pc := 52) rfl rfl ?_
  refine x_const (pc := 55) (pc' := 58) (.int (nI 255)) rfl rfl rfl rfl ?_
  refine x_const (pc := 58) (pc' := 59) (.int (nI 0)) rfl rfl rfl rfl ?_
  refine x_k (pc := 59) rfl rfl rfl ⟨Nat.le_of_ble_eq_true rfl, Nat.le_of_ble_eq_true rfl, Nat.le_of_ble_eq_true rfl⟩ rfl (mq_k (c_43_3 (I := va_up I 31 (nI 0)) (A := A) _ _) ?_)
  show mq 88 62 [some (.ref 1), some (.int (nI g)), some (.int (nI 0)), some (.int o), some (.int (nI ((4 * g) + 0)))] [] (hS n u (va_up (va_up (va_up I 31 (nI 0)) 29 (nI 255)) 30 (nI 0)) A J B 53 60 L xs X) _
  refine x_al1 (pc := 62) rfl rfl ?_
  refine g_1_10 (pc := 63) rfl rfl ?_
  refine g_60_0 (pc := 66) rfl rfl ?_
  refine x_const (pc := 69) (pc' := 70) (.int (nI 0)) rfl rfl rfl rfl ?_
  refine x_const (pc := 70) (pc' := 71) (.int (nI 0)) rfl rfl rfl rfl ?_
  refine x_il2 (pc := 71) rfl rfl ?_
  refine x_il1 (pc := 73) rfl rfl ?_
  refine x_const (pc := 74) (pc' := 75) (.int (nI 0)) rfl rfl rfl rfl ?_
  refine x_k (pc := 75) rfl rfl rfl ⟨Nat.le_of_ble_eq_true rfl, Nat.le_of_ble_eq_true rfl, Nat.le_of_ble_eq_true rfl⟩ rfl (mq_k (c_12_61 (I := va_up (va_up (va_up I 31 (nI 0)) 29 (nI 255)) 30 (nI 0)) (A := A) (m := 0) rfl (by decide) _ _ _ _ _) ?_)
  show mq 88 78 [some (.ref 1), some (.int (nI g)), some (.int (nI 0)), some (.int o), some (.int (nI ((4 * g) + 0)))] [.int 1] (hS n u (va_up (va_up (va_up (va_up I 31 (nI 0)) 29 (nI 255)) 30 (nI 0)) 31 (nI 1)) (va_up (va_up (va_up (va_up (va_up A 25 (upd (A 25) 0 (nI 0))) 26 (upd (A 26) 0 (nI 0))) 27 (upd (A 27) 0 (nI (4 * g + 0)))) 28 (upd (A 28) 0 o)) 29 (upd (A 29) 0 (nI 0))) J B 53 60 L xs X) _
  refine x_step (pc := 78) (pc' := 79) (st' := []) rfl rfl rfl rfl ?_
  refine x_al1 (pc := 79) rfl rfl ?_
  refine x_al1 (pc := 80) rfl rfl ?_
  refine g_1_2 (pc := 81) rfl rfl ?_
  refine x_const (pc := 84) (pc' := 85) (.int (nI 3)) rfl rfl rfl rfl ?_
  refine aal (pc := 85) (q := 3) (a := 28) rfl rfl (by decide) rfl ?_
  refine x_al1 (pc := 86) rfl rfl ?_
  refine g_1_10 (pc := 87) rfl rfl ?_
  refine x_k (pc := 90) rfl rfl rfl ⟨Nat.le_of_ble_eq_true rfl, Nat.le_of_ble_eq_true rfl, Nat.le_of_ble_eq_true rfl⟩ rfl (k_63_3_3 (mk := 53) (sn := 60) (I := va_up (va_up (va_up (va_up I 31 (nI 0)) 29 (nI 255)) 30 (nI 0)) 31 (nI 1)) (A := va_up (va_up (va_up (va_up (va_up A 25 (upd (A 25) 0 (nI 0))) 26 (upd (A 26) 0 (nI 0))) 27 (upd (A 27) 0 (nI (4 * g + 0)))) 28 (upd (A 28) 0 o)) 29 (upd (A 29) 0 (nI 0))) (S := S) (f := f) (N := N) (l := [(nI 0, nI 0, nI (4 * g + 0), o, nI 0)]) (p := nI 255) (q := nI 0) (kD_on hD ho (show Fr [29, 30, 31] I (va_up (va_up (va_up (va_up I 31 (nI 0)) 29 (nI 255)) 30 (nI 0)) 31 (nI 1)) from (Fr_u (Fr_u (Fr_u (Fr_u (Fr_refl _ _) (by decide)) (by decide)) (by decide)) (by decide))) (show Fr [25, 26, 27, 28, 29] A (va_up (va_up (va_up (va_up (va_up A 25 (upd (A 25) 0 (nI 0))) 26 (upd (A 26) 0 (nI 0))) 27 (upd (A 27) 0 (nI (4 * g + 0)))) 28 (upd (A 28) 0 o)) 29 (upd (A 29) 0 (nI 0))) from (Fr_u (Fr_u (Fr_u (Fr_u (Fr_u (Fr_refl _ _) (by decide)) (by decide)) (by decide)) (by decide)) (by decide))) (by decide) (by decide)) ho (Or.inl ⟨rfl, rfl⟩) hn hu hcn hc hf hsl hN hNb (BT_1 rfl rfl rfl (show upd (A 25) 0 (nI 0) 0 = nI 0 from pk_us) (show upd (A 26) 0 (nI 0) 0 = nI 0 from pk_us) (show upd (A 27) 0 (nI (4 * g + 0)) 0 = nI (4 * g + 0) from pk_us) (show upd (A 28) 0 o 0 = o from pk_us) (show upd (A 29) 0 (nI 0) 0 = nI 0 from pk_us)) (show 1 ≤ 1 by decide) (show 1 ≤ 4 by decide) hroom (fun S6 f6 c6 e6 o6 I6 A6 x6 y6 h6 n6 b6 d6 s6 => ?_) (fun S6 f6 c6 e6 o6 I6 A6 x6 y6 h6 => mK_x rfl (kx S6 f6 c6 e6 o6 I6 A6 (Up_tr (Up_fr (show Fr [29, 30, 31] I (va_up (va_up (va_up (va_up I 31 (nI 0)) 29 (nI 255)) 30 (nI 0)) 31 (nI 1)) from (Fr_u (Fr_u (Fr_u (Fr_u (Fr_refl _ _) (by decide)) (by decide)) (by decide)) (by decide))) (by decide)) x6) (Up_tr (Up_fr (show Fr [25, 26, 27, 28, 29] A (va_up (va_up (va_up (va_up (va_up A 25 (upd (A 25) 0 (nI 0))) 26 (upd (A 26) 0 (nI 0))) 27 (upd (A 27) 0 (nI (4 * g + 0)))) 28 (upd (A 28) 0 o)) 29 (upd (A 29) 0 (nI 0))) from (Fr_u (Fr_u (Fr_u (Fr_u (Fr_u (Fr_refl _ _) (by decide)) (by decide)) (by decide)) (by decide)) (by decide))) (by decide)) y6) h6)) (fun e6 I6 A6 x6 y6 => mK_x rfl (kr e6 I6 A6 (Fr_cons (Fr_u (Fr_u (Fr_u (Fr_u (Fr_refl _ _) (by decide)) (by decide)) (by decide)) (by decide)) x6 (by decide)) (Fr_cons (Fr_u (Fr_u (Fr_u (Fr_u (Fr_u (Fr_refl _ _) (by decide)) (by decide)) (by decide)) (by decide)) (by decide)) y6 (by decide)))))
  show mq 88 93 [some (.ref 1), some (.int (nI g)), some (.int (nI 0)), some (.int o), some (.int (nI ((4 * g) + 0)))] [.int (nI N)] (hS n u I6 A6 J B 53 60 L xs X) _
  refine x_step (pc := 93) (pc' := 94) (st' := []) rfl rfl rfl rfl ?_
  refine x_al1 (pc := 94) rfl rfl ?_
  refine g_1_3 (pc := 95) rfl rfl ?_
  refine x_il2 (pc := 98) rfl rfl ?_
  refine x_il1 (pc := 100) rfl rfl ?_
  refine as_33 (pc := 101) (q := 4 * g + 0) rfl rfl (by omega) ?_
  refine x_ret (pc := 102) rfl rfl ?_
  exact kk S6 f6 c6 e6 o6 _ _ (Fr_cons (Fr_u (Fr_u (Fr_u (Fr_u (Fr_refl _ _) (by decide)) (by decide)) (by decide)) (by decide)) x6 (by decide)) (Fr_u (Fr_cons (Fr_u (Fr_u (Fr_u (Fr_u (Fr_u (Fr_refl _ _) (by decide)) (by decide)) (by decide)) (by decide)) (by decide)) y6 (by decide)) (by decide)) (kD_on h6 o6 (Fr_refl [] I6) (Fr_up A6 1 _) (by decide) (by decide)) n6 d6 s6 (show upd (A6 1) (4 * g + 0) o = _ by rw [y6 1 (by decide)]; rfl)
set_option maxRecDepth 100000 in
set_option maxHeartbeats 4000000 in
theorem k_88o_1 {S : DS} (hD : kD mk S I A) (ho : dO S = false) {g : Nat} {o x y : Int32} (hg : g < 8) (ha : I 44 = x) (hb : I 45 = y) (hx : o < x ∨ ¬ o ≤ y) (hn : 77 ≤ n ∧ n < 10000) (hu : u + 6 < 1000000) {Q : mO × mHp → Prop} (kk : Q (.inr n, hS (n + 1) (u + 6) I A J B mk sn L xs (va_up X n (.inr (12, []))))) : mq 88 0 [some (.ref 1), some (.int (nI g)), some (.int (nI 1)), some (.int o), none] [] (hS n u I A J B mk sn L xs X) Q := by
  refine x_al1 (pc := 0) rfl rfl ?_
  refine x_k (pc := 1) rfl rfl rfl ⟨Nat.le_of_ble_eq_true rfl, Nat.le_of_ble_eq_true rfl, Nat.le_of_ble_eq_true rfl⟩ rfl (k_60 (I := I) (kD_1 hD ho) ?_)
  show mq 88 4 [some (.ref 1), some (.int (nI g)), some (.int (nI 1)), some (.int o), none] [] (hS n u I A J B mk sn L xs X) _
  refine x_il1 (pc := 4) rfl rfl ?_
  refine x_il1 (pc := 5) rfl rfl ?_
  refine x_k (pc := 6) rfl rfl rfl ⟨Nat.le_of_ble_eq_true rfl, Nat.le_of_ble_eq_true rfl, Nat.le_of_ble_eq_true rfl⟩ rfl (k_89 (I := I) (A := A) hg (by decide) ?_)
  show mq 88 9 [some (.ref 1), some (.int (nI g)), some (.int (nI 1)), some (.int o), none] [.int (nI 1)] (hS n u I A J B mk sn L xs X) _
  refine x_ifN_ne (pc := 9) (t := 22) rfl rfl (by decide) (fun _ => ?_) (fun c => absurd c (by decide))
  refine x_al1 (pc := 22) rfl rfl ?_
  refine x_al1 (pc := 23) rfl rfl ?_
  refine g_1_2 (pc := 24) rfl rfl ?_
  refine x_il1 (pc := 27) rfl rfl ?_
  refine aal (pc := 28) (q := 1) (a := 18) rfl rfl (by decide) rfl ?_
  refine x_il1 (pc := 29) rfl rfl ?_
  refine x_k (pc := 30) rfl rfl rfl ⟨Nat.le_of_ble_eq_true rfl, Nat.le_of_ble_eq_true rfl, Nat.le_of_ble_eq_true rfl⟩ rfl (k_77x_1 ha hb hx hn hu (mK_x rfl kk))
set_option maxRecDepth 100000 in
set_option maxHeartbeats 4000000 in
theorem k_88_53_1 {S : DS} (hD : kD 60 S I A) (ho : dO S = false) {g : Nat} {o x y : Int32} (hg : g < 8) (ha : I 44 = x) (hb : I 45 = y) (hx1 : ¬ o < x) (hx2 : o ≤ y) {cn N : Nat} {f : Nat → Nat} (hcn : cn ≤ 16) (hc : I 49 = nI cn) (hf : ∀ k, k < cn → f k < 16) (hsl : ∀ j, j < cn → A 42 j = nI (f j)) (hN : I 51 = nI N) (hNb : N + 4 < 2 ^ 31) (hroom : frS (dD S) 16 0 = -1 ∨ cn < 16) (hn : 77 ≤ n ∧ n < 10000) (hu : u + 6 < 1000000) {Q : mO × mHp → Prop} (kk : ∀ S' f' cn', apS S 3 f cn N (nI 255) (nI 0) (nmb N [(nI 0, nI 0, nI (4 * g + 1), o, nI 0)]) = some (S', f', cn') → dO S' = false → ∀ I' A', Fr [2, 3, 14, 15, 49, 51, 26, 27, 28] I I' → Fr [0, 1, 3, 4, 42, 20, 21, 22, 23, 24] A A' → kD 60 S' I' A' → I' 51 = nI (N + 1) → I' 49 = nI cn' → (∀ j, j < cn' → A' 42 j = nI (f' j)) → A' 1 = upd (A 1) (4 * g + 1) o → Q (.inl none, hS n u I' A' J B 60 53 L xs X)) (kx : ∀ S' f' cn', apS S 3 f cn N (nI 255) (nI 0) (nmb N [(nI 0, nI 0, nI (4 * g + 1), o, nI 0)]) = some (S', f', cn') → dO S' = true → ∀ I' A', Up 60 I I' → Up 50 A A' → kD 60 S' I' A' → Q (.inr n, hS (n + 1) (u + 6) I' A' J B 60 53 L xs (va_up X n (.inr (9, []))))) (kr : apS S 3 f cn N (nI 255) (nI 0) (nmb N [(nI 0, nI 0, nI (4 * g + 1), o, nI 0)]) = none → ∀ I' A', Fr [14, 26, 27, 28] I I' → Fr [3, 20, 21, 22, 23, 24] A A' → Q (.inr n, hS (n + 1) (u + 6) I' A' J B 60 53 L xs (va_up X n (.inr (11, []))))) : mq 88 0 [some (.ref 1), some (.int (nI g)), some (.int (nI 1)), some (.int o), none] [] (hS n u I A J B 60 53 L xs X) Q := by
  refine x_al1 (pc := 0) rfl rfl ?_
  refine x_k (pc := 1) rfl rfl rfl ⟨Nat.le_of_ble_eq_true rfl, Nat.le_of_ble_eq_true rfl, Nat.le_of_ble_eq_true rfl⟩ rfl (k_60 (I := I) (kD_1 hD ho) ?_)
  show mq 88 4 [some (.ref 1), some (.int (nI g)), some (.int (nI 1)), some (.int o), none] [] (hS n u I A J B 60 53 L xs X) _
  refine x_il1 (pc := 4) rfl rfl ?_
  refine x_il1 (pc := 5) rfl rfl ?_
  refine x_k (pc := 6) rfl rfl rfl ⟨Nat.le_of_ble_eq_true rfl, Nat.le_of_ble_eq_true rfl, Nat.le_of_ble_eq_true rfl⟩ rfl (k_89 (I := I) (A := A) hg (by decide) ?_)
  show mq 88 9 [some (.ref 1), some (.int (nI g)), some (.int (nI 1)), some (.int o), none] [.int (nI 1)] (hS n u I A J B 60 53 L xs X) _
  refine x_ifN_ne (pc := 9) (t := 22) rfl rfl (by decide) (fun _ => ?_) (fun c => absurd c (by decide))
  refine x_al1 (pc := 22) rfl rfl ?_
  refine x_al1 (pc := 23) rfl rfl ?_
  refine g_1_2 (pc := 24) rfl rfl ?_
  refine x_il1 (pc := 27) rfl rfl ?_
  refine aal (pc := 28) (q := 1) (a := 18) rfl rfl (by decide) rfl ?_
  refine x_il1 (pc := 29) rfl rfl ?_
  refine x_k (pc := 30) rfl rfl rfl ⟨Nat.le_of_ble_eq_true rfl, Nat.le_of_ble_eq_true rfl, Nat.le_of_ble_eq_true rfl⟩ rfl (k_77_1 (I := I) (A := A) ha hb hx1 hx2 ?_)
  show mq 88 33 [some (.ref 1), some (.int (nI g)), some (.int (nI 1)), some (.int o), none] [] (hS n u I A J B 60 53 L xs X) _
  refine x_const (pc := 33) (pc' := 34) (.int (nI 4)) rfl rfl rfl rfl ?_
  refine x_il1 (pc := 34) rfl rfl ?_
  refine x_imulN (pc := 35) (c := 4 * g) rfl rfl ?_
  refine x_il1 (pc := 36) rfl rfl ?_
  refine x_iaddN (pc := 37) (c := (4 * g) + 1) rfl rfl ?_
  refine x_is2 (pc := 38) (ml' := [some (.ref 1), some (.int (nI g)), some (.int (nI 1)), some (.int o), some (.int (nI ((4 * g) + 1)))]) rfl rfl ?_
  refine x_al1 (pc := 40) rfl rfl ?_
  refine g_1_10 (pc := 41) rfl rfl ?_
  refine g_53_0 (pc := 44) rfl rfl ?_
  refine x_const (pc := 47) (pc' := 48) (.int (nI 0)) rfl rfl rfl rfl ?_
  refine p_54_5 (pc := 48) rfl rfl ?_
  refine x_al1 (pc := 51) rfl rfl ?_
  refine g_1_10 (pc := 52) rfl rfl ?_
  refine x_const (pc := 55) (pc' := 58) (.int (nI 255)) rfl rfl rfl rfl ?_
  refine x_const (pc := 58) (pc' := 59) (.int (nI 0)) rfl rfl rfl rfl ?_
  refine x_k (pc := 59) rfl rfl rfl ⟨Nat.le_of_ble_eq_true rfl, Nat.le_of_ble_eq_true rfl, Nat.le_of_ble_eq_true rfl⟩ rfl (mq_k (c_43_2 (I := va_up I 28 (nI 0)) (A := A) _ _) ?_)
  show mq 88 62 [some (.ref 1), some (.int (nI g)), some (.int (nI 1)), some (.int o), some (.int (nI ((4 * g) + 1)))] [] (hS n u (va_up (va_up (va_up I 28 (nI 0)) 26 (nI 255)) 27 (nI 0)) A J B 60 53 L xs X) _
  refine x_al1 (pc := 62) rfl rfl ?_
  refine g_1_10 (pc := 63) rfl rfl ?_
  refine g_53_0 (pc := 66) rfl rfl ?_
  refine x_const (pc := 69) (pc' := 70) (.int (nI 0)) rfl rfl rfl rfl ?_
  refine x_const (pc := 70) (pc' := 71) (.int (nI 0)) rfl rfl rfl rfl ?_
  refine x_il2 (pc := 71) rfl rfl ?_
  refine x_il1 (pc := 73) rfl rfl ?_
  refine x_const (pc := 74) (pc' := 75) (.int (nI 0)) rfl rfl rfl rfl ?_
  refine x_k (pc := 75) rfl rfl rfl ⟨Nat.le_of_ble_eq_true rfl, Nat.le_of_ble_eq_true rfl, Nat.le_of_ble_eq_true rfl⟩ rfl (mq_k (c_12_54 (I := va_up (va_up (va_up I 28 (nI 0)) 26 (nI 255)) 27 (nI 0)) (A := A) (m := 0) rfl (by decide) _ _ _ _ _) ?_)
  show mq 88 78 [some (.ref 1), some (.int (nI g)), some (.int (nI 1)), some (.int o), some (.int (nI ((4 * g) + 1)))] [.int 1] (hS n u (va_up (va_up (va_up (va_up I 28 (nI 0)) 26 (nI 255)) 27 (nI 0)) 28 (nI 1)) (va_up (va_up (va_up (va_up (va_up A 20 (upd (A 20) 0 (nI 0))) 21 (upd (A 21) 0 (nI 0))) 22 (upd (A 22) 0 (nI (4 * g + 1)))) 23 (upd (A 23) 0 o)) 24 (upd (A 24) 0 (nI 0))) J B 60 53 L xs X) _
  refine x_step (pc := 78) (pc' := 79) (st' := []) rfl rfl rfl rfl ?_
  refine x_al1 (pc := 79) rfl rfl ?_
  refine x_al1 (pc := 80) rfl rfl ?_
  refine g_1_2 (pc := 81) rfl rfl ?_
  refine x_const (pc := 84) (pc' := 85) (.int (nI 3)) rfl rfl rfl rfl ?_
  refine aal (pc := 85) (q := 3) (a := 28) rfl rfl (by decide) rfl ?_
  refine x_al1 (pc := 86) rfl rfl ?_
  refine g_1_10 (pc := 87) rfl rfl ?_
  refine x_k (pc := 90) rfl rfl rfl ⟨Nat.le_of_ble_eq_true rfl, Nat.le_of_ble_eq_true rfl, Nat.le_of_ble_eq_true rfl⟩ rfl (k_63_3_2 (mk := 60) (sn := 53) (I := va_up (va_up (va_up (va_up I 28 (nI 0)) 26 (nI 255)) 27 (nI 0)) 28 (nI 1)) (A := va_up (va_up (va_up (va_up (va_up A 20 (upd (A 20) 0 (nI 0))) 21 (upd (A 21) 0 (nI 0))) 22 (upd (A 22) 0 (nI (4 * g + 1)))) 23 (upd (A 23) 0 o)) 24 (upd (A 24) 0 (nI 0))) (S := S) (f := f) (N := N) (l := [(nI 0, nI 0, nI (4 * g + 1), o, nI 0)]) (p := nI 255) (q := nI 0) (kD_on hD ho (show Fr [26, 27, 28] I (va_up (va_up (va_up (va_up I 28 (nI 0)) 26 (nI 255)) 27 (nI 0)) 28 (nI 1)) from (Fr_u (Fr_u (Fr_u (Fr_u (Fr_refl _ _) (by decide)) (by decide)) (by decide)) (by decide))) (show Fr [20, 21, 22, 23, 24] A (va_up (va_up (va_up (va_up (va_up A 20 (upd (A 20) 0 (nI 0))) 21 (upd (A 21) 0 (nI 0))) 22 (upd (A 22) 0 (nI (4 * g + 1)))) 23 (upd (A 23) 0 o)) 24 (upd (A 24) 0 (nI 0))) from (Fr_u (Fr_u (Fr_u (Fr_u (Fr_u (Fr_refl _ _) (by decide)) (by decide)) (by decide)) (by decide)) (by decide))) (by decide) (by decide)) ho (Or.inr ⟨rfl, rfl⟩) hn hu hcn hc hf hsl hN hNb (BT_1 rfl rfl rfl (show upd (A 20) 0 (nI 0) 0 = nI 0 from pk_us) (show upd (A 21) 0 (nI 0) 0 = nI 0 from pk_us) (show upd (A 22) 0 (nI (4 * g + 1)) 0 = nI (4 * g + 1) from pk_us) (show upd (A 23) 0 o 0 = o from pk_us) (show upd (A 24) 0 (nI 0) 0 = nI 0 from pk_us)) (show 1 ≤ 1 by decide) (show 1 ≤ 4 by decide) hroom (fun S6 f6 c6 e6 o6 I6 A6 x6 y6 h6 n6 b6 d6 s6 => ?_) (fun S6 f6 c6 e6 o6 I6 A6 x6 y6 h6 => mK_x rfl (kx S6 f6 c6 e6 o6 I6 A6 (Up_tr (Up_fr (show Fr [26, 27, 28] I (va_up (va_up (va_up (va_up I 28 (nI 0)) 26 (nI 255)) 27 (nI 0)) 28 (nI 1)) from (Fr_u (Fr_u (Fr_u (Fr_u (Fr_refl _ _) (by decide)) (by decide)) (by decide)) (by decide))) (by decide)) x6) (Up_tr (Up_fr (show Fr [20, 21, 22, 23, 24] A (va_up (va_up (va_up (va_up (va_up A 20 (upd (A 20) 0 (nI 0))) 21 (upd (A 21) 0 (nI 0))) 22 (upd (A 22) 0 (nI (4 * g + 1)))) 23 (upd (A 23) 0 o)) 24 (upd (A 24) 0 (nI 0))) from (Fr_u (Fr_u (Fr_u (Fr_u (Fr_u (Fr_refl _ _) (by decide)) (by decide)) (by decide)) (by decide)) (by decide))) (by decide)) y6) h6)) (fun e6 I6 A6 x6 y6 => mK_x rfl (kr e6 I6 A6 (Fr_cons (Fr_u (Fr_u (Fr_u (Fr_u (Fr_refl _ _) (by decide)) (by decide)) (by decide)) (by decide)) x6 (by decide)) (Fr_cons (Fr_u (Fr_u (Fr_u (Fr_u (Fr_u (Fr_refl _ _) (by decide)) (by decide)) (by decide)) (by decide)) (by decide)) y6 (by decide)))))
  show mq 88 93 [some (.ref 1), some (.int (nI g)), some (.int (nI 1)), some (.int o), some (.int (nI ((4 * g) + 1)))] [.int (nI N)] (hS n u I6 A6 J B 60 53 L xs X) _
  refine x_step (pc := 93) (pc' := 94) (st' := []) rfl rfl rfl rfl ?_
  refine x_al1 (pc := 94) rfl rfl ?_
  refine g_1_3 (pc := 95) rfl rfl ?_
  refine x_il2 (pc := 98) rfl rfl ?_
  refine x_il1 (pc := 100) rfl rfl ?_
  refine as_33 (pc := 101) (q := 4 * g + 1) rfl rfl (by omega) ?_
  refine x_ret (pc := 102) rfl rfl ?_
  exact kk S6 f6 c6 e6 o6 _ _ (Fr_cons (Fr_u (Fr_u (Fr_u (Fr_u (Fr_refl _ _) (by decide)) (by decide)) (by decide)) (by decide)) x6 (by decide)) (Fr_u (Fr_cons (Fr_u (Fr_u (Fr_u (Fr_u (Fr_u (Fr_refl _ _) (by decide)) (by decide)) (by decide)) (by decide)) (by decide)) y6 (by decide)) (by decide)) (kD_on h6 o6 (Fr_refl [] I6) (Fr_up A6 1 _) (by decide) (by decide)) n6 d6 s6 (show upd (A6 1) (4 * g + 1) o = _ by rw [y6 1 (by decide)]; rfl)
set_option maxRecDepth 100000 in
set_option maxHeartbeats 4000000 in
theorem k_88_60_1 {S : DS} (hD : kD 53 S I A) (ho : dO S = false) {g : Nat} {o x y : Int32} (hg : g < 8) (ha : I 44 = x) (hb : I 45 = y) (hx1 : ¬ o < x) (hx2 : o ≤ y) {cn N : Nat} {f : Nat → Nat} (hcn : cn ≤ 16) (hc : I 49 = nI cn) (hf : ∀ k, k < cn → f k < 16) (hsl : ∀ j, j < cn → A 42 j = nI (f j)) (hN : I 51 = nI N) (hNb : N + 4 < 2 ^ 31) (hroom : frS (dD S) 16 0 = -1 ∨ cn < 16) (hn : 77 ≤ n ∧ n < 10000) (hu : u + 6 < 1000000) {Q : mO × mHp → Prop} (kk : ∀ S' f' cn', apS S 3 f cn N (nI 255) (nI 0) (nmb N [(nI 0, nI 0, nI (4 * g + 1), o, nI 0)]) = some (S', f', cn') → dO S' = false → ∀ I' A', Fr [2, 3, 14, 15, 49, 51, 29, 30, 31] I I' → Fr [0, 1, 3, 4, 42, 25, 26, 27, 28, 29] A A' → kD 53 S' I' A' → I' 51 = nI (N + 1) → I' 49 = nI cn' → (∀ j, j < cn' → A' 42 j = nI (f' j)) → A' 1 = upd (A 1) (4 * g + 1) o → Q (.inl none, hS n u I' A' J B 53 60 L xs X)) (kx : ∀ S' f' cn', apS S 3 f cn N (nI 255) (nI 0) (nmb N [(nI 0, nI 0, nI (4 * g + 1), o, nI 0)]) = some (S', f', cn') → dO S' = true → ∀ I' A', Up 60 I I' → Up 50 A A' → kD 53 S' I' A' → Q (.inr n, hS (n + 1) (u + 6) I' A' J B 53 60 L xs (va_up X n (.inr (9, []))))) (kr : apS S 3 f cn N (nI 255) (nI 0) (nmb N [(nI 0, nI 0, nI (4 * g + 1), o, nI 0)]) = none → ∀ I' A', Fr [14, 29, 30, 31] I I' → Fr [3, 25, 26, 27, 28, 29] A A' → Q (.inr n, hS (n + 1) (u + 6) I' A' J B 53 60 L xs (va_up X n (.inr (11, []))))) : mq 88 0 [some (.ref 1), some (.int (nI g)), some (.int (nI 1)), some (.int o), none] [] (hS n u I A J B 53 60 L xs X) Q := by
  refine x_al1 (pc := 0) rfl rfl ?_
  refine x_k (pc := 1) rfl rfl rfl ⟨Nat.le_of_ble_eq_true rfl, Nat.le_of_ble_eq_true rfl, Nat.le_of_ble_eq_true rfl⟩ rfl (k_60 (I := I) (kD_1 hD ho) ?_)
  show mq 88 4 [some (.ref 1), some (.int (nI g)), some (.int (nI 1)), some (.int o), none] [] (hS n u I A J B 53 60 L xs X) _
  refine x_il1 (pc := 4) rfl rfl ?_
  refine x_il1 (pc := 5) rfl rfl ?_
  refine x_k (pc := 6) rfl rfl rfl ⟨Nat.le_of_ble_eq_true rfl, Nat.le_of_ble_eq_true rfl, Nat.le_of_ble_eq_true rfl⟩ rfl (k_89 (I := I) (A := A) hg (by decide) ?_)
  show mq 88 9 [some (.ref 1), some (.int (nI g)), some (.int (nI 1)), some (.int o), none] [.int (nI 1)] (hS n u I A J B 53 60 L xs X) _
  refine x_ifN_ne (pc := 9) (t := 22) rfl rfl (by decide) (fun _ => ?_) (fun c => absurd c (by decide))
  refine x_al1 (pc := 22) rfl rfl ?_
  refine x_al1 (pc := 23) rfl rfl ?_
  refine g_1_2 (pc := 24) rfl rfl ?_
  refine x_il1 (pc := 27) rfl rfl ?_
  refine aal (pc := 28) (q := 1) (a := 18) rfl rfl (by decide) rfl ?_
  refine x_il1 (pc := 29) rfl rfl ?_
  refine x_k (pc := 30) rfl rfl rfl ⟨Nat.le_of_ble_eq_true rfl, Nat.le_of_ble_eq_true rfl, Nat.le_of_ble_eq_true rfl⟩ rfl (k_77_1 (I := I) (A := A) ha hb hx1 hx2 ?_)
  show mq 88 33 [some (.ref 1), some (.int (nI g)), some (.int (nI 1)), some (.int o), none] [] (hS n u I A J B 53 60 L xs X) _
  refine x_const (pc := 33) (pc' := 34) (.int (nI 4)) rfl rfl rfl rfl ?_
  refine x_il1 (pc := 34) rfl rfl ?_
  refine x_imulN (pc := 35) (c := 4 * g) rfl rfl ?_
  refine x_il1 (pc := 36) rfl rfl ?_
  refine x_iaddN (pc := 37) (c := (4 * g) + 1) rfl rfl ?_
  refine x_is2 (pc := 38) (ml' := [some (.ref 1), some (.int (nI g)), some (.int (nI 1)), some (.int o), some (.int (nI ((4 * g) + 1)))]) rfl rfl ?_
  refine x_al1 (pc := 40) rfl rfl ?_
  refine g_1_10 (pc := 41) rfl rfl ?_
  refine g_60_0 (pc := 44) rfl rfl ?_
  refine x_const (pc := 47) (pc' := 48) (.int (nI 0)) rfl rfl rfl rfl ?_
  refine p_61_5 (pc := 48) rfl rfl ?_
  refine x_al1 (pc := 51) rfl rfl ?_
  refine g_1_10 (pc := 52) rfl rfl ?_
  refine x_const (pc := 55) (pc' := 58) (.int (nI 255)) rfl rfl rfl rfl ?_
  refine x_const (pc := 58) (pc' := 59) (.int (nI 0)) rfl rfl rfl rfl ?_
  refine x_k (pc := 59) rfl rfl rfl ⟨Nat.le_of_ble_eq_true rfl, Nat.le_of_ble_eq_true rfl, Nat.le_of_ble_eq_true rfl⟩ rfl (mq_k (c_43_3 (I := va_up I 31 (nI 0)) (A := A) _ _) ?_)
  show mq 88 62 [some (.ref 1), some (.int (nI g)), some (.int (nI 1)), some (.int o), some (.int (nI ((4 * g) + 1)))] [] (hS n u (va_up (va_up (va_up I 31 (nI 0)) 29 (nI 255)) 30 (nI 0)) A J B 53 60 L xs X) _
  refine x_al1 (pc := 62) rfl rfl ?_
  refine g_1_10 (pc := 63) rfl rfl ?_
  refine g_60_0 (pc := 66) rfl rfl ?_
  refine x_const (pc := 69) (pc' := 70) (.int (nI 0)) rfl rfl rfl rfl ?_
  refine x_const (pc := 70) (pc' := 71) (.int (nI 0)) rfl rfl rfl rfl ?_
  refine x_il2 (pc := 71) rfl rfl ?_
  refine x_il1 (pc := 73) rfl rfl ?_
  refine x_const (pc := 74) (pc' := 75) (.int (nI 0)) rfl rfl rfl rfl ?_
  refine x_k (pc := 75) rfl rfl rfl ⟨Nat.le_of_ble_eq_true rfl, Nat.le_of_ble_eq_true rfl, Nat.le_of_ble_eq_true rfl⟩ rfl (mq_k (c_12_61 (I := va_up (va_up (va_up I 31 (nI 0)) 29 (nI 255)) 30 (nI 0)) (A := A) (m := 0) rfl (by decide) _ _ _ _ _) ?_)
  show mq 88 78 [some (.ref 1), some (.int (nI g)), some (.int (nI 1)), some (.int o), some (.int (nI ((4 * g) + 1)))] [.int 1] (hS n u (va_up (va_up (va_up (va_up I 31 (nI 0)) 29 (nI 255)) 30 (nI 0)) 31 (nI 1)) (va_up (va_up (va_up (va_up (va_up A 25 (upd (A 25) 0 (nI 0))) 26 (upd (A 26) 0 (nI 0))) 27 (upd (A 27) 0 (nI (4 * g + 1)))) 28 (upd (A 28) 0 o)) 29 (upd (A 29) 0 (nI 0))) J B 53 60 L xs X) _
  refine x_step (pc := 78) (pc' := 79) (st' := []) rfl rfl rfl rfl ?_
  refine x_al1 (pc := 79) rfl rfl ?_
  refine x_al1 (pc := 80) rfl rfl ?_
  refine g_1_2 (pc := 81) rfl rfl ?_
  refine x_const (pc := 84) (pc' := 85) (.int (nI 3)) rfl rfl rfl rfl ?_
  refine aal (pc := 85) (q := 3) (a := 28) rfl rfl (by decide) rfl ?_
  refine x_al1 (pc := 86) rfl rfl ?_
  refine g_1_10 (pc := 87) rfl rfl ?_
  refine x_k (pc := 90) rfl rfl rfl ⟨Nat.le_of_ble_eq_true rfl, Nat.le_of_ble_eq_true rfl, Nat.le_of_ble_eq_true rfl⟩ rfl (k_63_3_3 (mk := 53) (sn := 60) (I := va_up (va_up (va_up (va_up I 31 (nI 0)) 29 (nI 255)) 30 (nI 0)) 31 (nI 1)) (A := va_up (va_up (va_up (va_up (va_up A 25 (upd (A 25) 0 (nI 0))) 26 (upd (A 26) 0 (nI 0))) 27 (upd (A 27) 0 (nI (4 * g + 1)))) 28 (upd (A 28) 0 o)) 29 (upd (A 29) 0 (nI 0))) (S := S) (f := f) (N := N) (l := [(nI 0, nI 0, nI (4 * g + 1), o, nI 0)]) (p := nI 255) (q := nI 0) (kD_on hD ho (show Fr [29, 30, 31] I (va_up (va_up (va_up (va_up I 31 (nI 0)) 29 (nI 255)) 30 (nI 0)) 31 (nI 1)) from (Fr_u (Fr_u (Fr_u (Fr_u (Fr_refl _ _) (by decide)) (by decide)) (by decide)) (by decide))) (show Fr [25, 26, 27, 28, 29] A (va_up (va_up (va_up (va_up (va_up A 25 (upd (A 25) 0 (nI 0))) 26 (upd (A 26) 0 (nI 0))) 27 (upd (A 27) 0 (nI (4 * g + 1)))) 28 (upd (A 28) 0 o)) 29 (upd (A 29) 0 (nI 0))) from (Fr_u (Fr_u (Fr_u (Fr_u (Fr_u (Fr_refl _ _) (by decide)) (by decide)) (by decide)) (by decide)) (by decide))) (by decide) (by decide)) ho (Or.inl ⟨rfl, rfl⟩) hn hu hcn hc hf hsl hN hNb (BT_1 rfl rfl rfl (show upd (A 25) 0 (nI 0) 0 = nI 0 from pk_us) (show upd (A 26) 0 (nI 0) 0 = nI 0 from pk_us) (show upd (A 27) 0 (nI (4 * g + 1)) 0 = nI (4 * g + 1) from pk_us) (show upd (A 28) 0 o 0 = o from pk_us) (show upd (A 29) 0 (nI 0) 0 = nI 0 from pk_us)) (show 1 ≤ 1 by decide) (show 1 ≤ 4 by decide) hroom (fun S6 f6 c6 e6 o6 I6 A6 x6 y6 h6 n6 b6 d6 s6 => ?_) (fun S6 f6 c6 e6 o6 I6 A6 x6 y6 h6 => mK_x rfl (kx S6 f6 c6 e6 o6 I6 A6 (Up_tr (Up_fr (show Fr [29, 30, 31] I (va_up (va_up (va_up (va_up I 31 (nI 0)) 29 (nI 255)) 30 (nI 0)) 31 (nI 1)) from (Fr_u (Fr_u (Fr_u (Fr_u (Fr_refl _ _) (by decide)) (by decide)) (by decide)) (by decide))) (by decide)) x6) (Up_tr (Up_fr (show Fr [25, 26, 27, 28, 29] A (va_up (va_up (va_up (va_up (va_up A 25 (upd (A 25) 0 (nI 0))) 26 (upd (A 26) 0 (nI 0))) 27 (upd (A 27) 0 (nI (4 * g + 1)))) 28 (upd (A 28) 0 o)) 29 (upd (A 29) 0 (nI 0))) from (Fr_u (Fr_u (Fr_u (Fr_u (Fr_u (Fr_refl _ _) (by decide)) (by decide)) (by decide)) (by decide)) (by decide))) (by decide)) y6) h6)) (fun e6 I6 A6 x6 y6 => mK_x rfl (kr e6 I6 A6 (Fr_cons (Fr_u (Fr_u (Fr_u (Fr_u (Fr_refl _ _) (by decide)) (by decide)) (by decide)) (by decide)) x6 (by decide)) (Fr_cons (Fr_u (Fr_u (Fr_u (Fr_u (Fr_u (Fr_refl _ _) (by decide)) (by decide)) (by decide)) (by decide)) (by decide)) y6 (by decide)))))
  show mq 88 93 [some (.ref 1), some (.int (nI g)), some (.int (nI 1)), some (.int o), some (.int (nI ((4 * g) + 1)))] [.int (nI N)] (hS n u I6 A6 J B 53 60 L xs X) _
  refine x_step (pc := 93) (pc' := 94) (st' := []) rfl rfl rfl rfl ?_
  refine x_al1 (pc := 94) rfl rfl ?_
  refine g_1_3 (pc := 95) rfl rfl ?_
  refine x_il2 (pc := 98) rfl rfl ?_
  refine x_il1 (pc := 100) rfl rfl ?_
  refine as_33 (pc := 101) (q := 4 * g + 1) rfl rfl (by omega) ?_
  refine x_ret (pc := 102) rfl rfl ?_
  exact kk S6 f6 c6 e6 o6 _ _ (Fr_cons (Fr_u (Fr_u (Fr_u (Fr_u (Fr_refl _ _) (by decide)) (by decide)) (by decide)) (by decide)) x6 (by decide)) (Fr_u (Fr_cons (Fr_u (Fr_u (Fr_u (Fr_u (Fr_u (Fr_refl _ _) (by decide)) (by decide)) (by decide)) (by decide)) (by decide)) y6 (by decide)) (by decide)) (kD_on h6 o6 (Fr_refl [] I6) (Fr_up A6 1 _) (by decide) (by decide)) n6 d6 s6 (show upd (A6 1) (4 * g + 1) o = _ by rw [y6 1 (by decide)]; rfl)
set_option maxRecDepth 100000 in
set_option maxHeartbeats 4000000 in
theorem k_88o_2 {S : DS} (hD : kD mk S I A) (ho : dO S = false) {g : Nat} {o x y : Int32} (hg : g < 8) (ha : I 47 = x) (hb : I 48 = y) (hx : o < x ∨ ¬ o ≤ y) (hn : 77 ≤ n ∧ n < 10000) (hu : u + 6 < 1000000) {Q : mO × mHp → Prop} (kk : Q (.inr n, hS (n + 1) (u + 6) I A J B mk sn L xs (va_up X n (.inr (12, []))))) : mq 88 0 [some (.ref 1), some (.int (nI g)), some (.int (nI 2)), some (.int o), none] [] (hS n u I A J B mk sn L xs X) Q := by
  refine x_al1 (pc := 0) rfl rfl ?_
  refine x_k (pc := 1) rfl rfl rfl ⟨Nat.le_of_ble_eq_true rfl, Nat.le_of_ble_eq_true rfl, Nat.le_of_ble_eq_true rfl⟩ rfl (k_60 (I := I) (kD_1 hD ho) ?_)
  show mq 88 4 [some (.ref 1), some (.int (nI g)), some (.int (nI 2)), some (.int o), none] [] (hS n u I A J B mk sn L xs X) _
  refine x_il1 (pc := 4) rfl rfl ?_
  refine x_il1 (pc := 5) rfl rfl ?_
  refine x_k (pc := 6) rfl rfl rfl ⟨Nat.le_of_ble_eq_true rfl, Nat.le_of_ble_eq_true rfl, Nat.le_of_ble_eq_true rfl⟩ rfl (k_89 (I := I) (A := A) hg (by decide) ?_)
  show mq 88 9 [some (.ref 1), some (.int (nI g)), some (.int (nI 2)), some (.int o), none] [.int (nI 1)] (hS n u I A J B mk sn L xs X) _
  refine x_ifN_ne (pc := 9) (t := 22) rfl rfl (by decide) (fun _ => ?_) (fun c => absurd c (by decide))
  refine x_al1 (pc := 22) rfl rfl ?_
  refine x_al1 (pc := 23) rfl rfl ?_
  refine g_1_2 (pc := 24) rfl rfl ?_
  refine x_il1 (pc := 27) rfl rfl ?_
  refine aal (pc := 28) (q := 2) (a := 23) rfl rfl (by decide) rfl ?_
  refine x_il1 (pc := 29) rfl rfl ?_
  refine x_k (pc := 30) rfl rfl rfl ⟨Nat.le_of_ble_eq_true rfl, Nat.le_of_ble_eq_true rfl, Nat.le_of_ble_eq_true rfl⟩ rfl (k_77x_2 ha hb hx hn hu (mK_x rfl kk))
set_option maxRecDepth 100000 in
set_option maxHeartbeats 4000000 in
theorem k_88_53_2 {S : DS} (hD : kD 60 S I A) (ho : dO S = false) {g : Nat} {o x y : Int32} (hg : g < 8) (ha : I 47 = x) (hb : I 48 = y) (hx1 : ¬ o < x) (hx2 : o ≤ y) {cn N : Nat} {f : Nat → Nat} (hcn : cn ≤ 16) (hc : I 49 = nI cn) (hf : ∀ k, k < cn → f k < 16) (hsl : ∀ j, j < cn → A 42 j = nI (f j)) (hN : I 51 = nI N) (hNb : N + 4 < 2 ^ 31) (hroom : frS (dD S) 16 0 = -1 ∨ cn < 16) (hn : 77 ≤ n ∧ n < 10000) (hu : u + 6 < 1000000) {Q : mO × mHp → Prop} (kk : ∀ S' f' cn', apS S 3 f cn N (nI 255) (nI 0) (nmb N [(nI 0, nI 0, nI (4 * g + 2), o, nI 0)]) = some (S', f', cn') → dO S' = false → ∀ I' A', Fr [2, 3, 14, 15, 49, 51, 26, 27, 28] I I' → Fr [0, 1, 3, 4, 42, 20, 21, 22, 23, 24] A A' → kD 60 S' I' A' → I' 51 = nI (N + 1) → I' 49 = nI cn' → (∀ j, j < cn' → A' 42 j = nI (f' j)) → A' 1 = upd (A 1) (4 * g + 2) o → Q (.inl none, hS n u I' A' J B 60 53 L xs X)) (kx : ∀ S' f' cn', apS S 3 f cn N (nI 255) (nI 0) (nmb N [(nI 0, nI 0, nI (4 * g + 2), o, nI 0)]) = some (S', f', cn') → dO S' = true → ∀ I' A', Up 60 I I' → Up 50 A A' → kD 60 S' I' A' → Q (.inr n, hS (n + 1) (u + 6) I' A' J B 60 53 L xs (va_up X n (.inr (9, []))))) (kr : apS S 3 f cn N (nI 255) (nI 0) (nmb N [(nI 0, nI 0, nI (4 * g + 2), o, nI 0)]) = none → ∀ I' A', Fr [14, 26, 27, 28] I I' → Fr [3, 20, 21, 22, 23, 24] A A' → Q (.inr n, hS (n + 1) (u + 6) I' A' J B 60 53 L xs (va_up X n (.inr (11, []))))) : mq 88 0 [some (.ref 1), some (.int (nI g)), some (.int (nI 2)), some (.int o), none] [] (hS n u I A J B 60 53 L xs X) Q := by
  refine x_al1 (pc := 0) rfl rfl ?_
  refine x_k (pc := 1) rfl rfl rfl ⟨Nat.le_of_ble_eq_true rfl, Nat.le_of_ble_eq_true rfl, Nat.le_of_ble_eq_true rfl⟩ rfl (k_60 (I := I) (kD_1 hD ho) ?_)
  show mq 88 4 [some (.ref 1), some (.int (nI g)), some (.int (nI 2)), some (.int o), none] [] (hS n u I A J B 60 53 L xs X) _
  refine x_il1 (pc := 4) rfl rfl ?_
  refine x_il1 (pc := 5) rfl rfl ?_
  refine x_k (pc := 6) rfl rfl rfl ⟨Nat.le_of_ble_eq_true rfl, Nat.le_of_ble_eq_true rfl, Nat.le_of_ble_eq_true rfl⟩ rfl (k_89 (I := I) (A := A) hg (by decide) ?_)
  show mq 88 9 [some (.ref 1), some (.int (nI g)), some (.int (nI 2)), some (.int o), none] [.int (nI 1)] (hS n u I A J B 60 53 L xs X) _
  refine x_ifN_ne (pc := 9) (t := 22) rfl rfl (by decide) (fun _ => ?_) (fun c => absurd c (by decide))
  refine x_al1 (pc := 22) rfl rfl ?_
  refine x_al1 (pc := 23) rfl rfl ?_
  refine g_1_2 (pc := 24) rfl rfl ?_
  refine x_il1 (pc := 27) rfl rfl ?_
  refine aal (pc := 28) (q := 2) (a := 23) rfl rfl (by decide) rfl ?_
  refine x_il1 (pc := 29) rfl rfl ?_
  refine x_k (pc := 30) rfl rfl rfl ⟨Nat.le_of_ble_eq_true rfl, Nat.le_of_ble_eq_true rfl, Nat.le_of_ble_eq_true rfl⟩ rfl (k_77_2 (I := I) (A := A) ha hb hx1 hx2 ?_)
  show mq 88 33 [some (.ref 1), some (.int (nI g)), some (.int (nI 2)), some (.int o), none] [] (hS n u I A J B 60 53 L xs X) _
  refine x_const (pc := 33) (pc' := 34) (.int (nI 4)) rfl rfl rfl rfl ?_
  refine x_il1 (pc := 34) rfl rfl ?_
  refine x_imulN (pc := 35) (c := 4 * g) rfl rfl ?_
  refine x_il1 (pc := 36) rfl rfl ?_
  refine x_iaddN (pc := 37) (c := (4 * g) + 2) rfl rfl ?_
  refine x_is2 (pc := 38) (ml' := [some (.ref 1), some (.int (nI g)), some (.int (nI 2)), some (.int o), some (.int (nI ((4 * g) + 2)))]) rfl rfl ?_
  refine x_al1 (pc := 40) rfl rfl ?_
  refine g_1_10 (pc := 41) rfl rfl ?_
  refine g_53_0 (pc := 44) rfl rfl ?_
  refine x_const (pc := 47) (pc' := 48) (.int (nI 0)) rfl rfl rfl rfl ?_
  refine p_54_5 (pc := 48) rfl rfl ?_
  refine x_al1 (pc := 51) rfl rfl ?_
  refine g_1_10 (pc := 52) rfl rfl ?_
  refine x_const (pc := 55) (pc' := 58) (.int (nI 255)) rfl rfl rfl rfl ?_
  refine x_const (pc := 58) (pc' := 59) (.int (nI 0)) rfl rfl rfl rfl ?_
  refine x_k (pc := 59) rfl rfl rfl ⟨Nat.le_of_ble_eq_true rfl, Nat.le_of_ble_eq_true rfl, Nat.le_of_ble_eq_true rfl⟩ rfl (mq_k (c_43_2 (I := va_up I 28 (nI 0)) (A := A) _ _) ?_)
  show mq 88 62 [some (.ref 1), some (.int (nI g)), some (.int (nI 2)), some (.int o), some (.int (nI ((4 * g) + 2)))] [] (hS n u (va_up (va_up (va_up I 28 (nI 0)) 26 (nI 255)) 27 (nI 0)) A J B 60 53 L xs X) _
  refine x_al1 (pc := 62) rfl rfl ?_
  refine g_1_10 (pc := 63) rfl rfl ?_
  refine g_53_0 (pc := 66) rfl rfl ?_
  refine x_const (pc := 69) (pc' := 70) (.int (nI 0)) rfl rfl rfl rfl ?_
  refine x_const (pc := 70) (pc' := 71) (.int (nI 0)) rfl rfl rfl rfl ?_
  refine x_il2 (pc := 71) rfl rfl ?_
  refine x_il1 (pc := 73) rfl rfl ?_
  refine x_const (pc := 74) (pc' := 75) (.int (nI 0)) rfl rfl rfl rfl ?_
  refine x_k (pc := 75) rfl rfl rfl ⟨Nat.le_of_ble_eq_true rfl, Nat.le_of_ble_eq_true rfl, Nat.le_of_ble_eq_true rfl⟩ rfl (mq_k (c_12_54 (I := va_up (va_up (va_up I 28 (nI 0)) 26 (nI 255)) 27 (nI 0)) (A := A) (m := 0) rfl (by decide) _ _ _ _ _) ?_)
  show mq 88 78 [some (.ref 1), some (.int (nI g)), some (.int (nI 2)), some (.int o), some (.int (nI ((4 * g) + 2)))] [.int 1] (hS n u (va_up (va_up (va_up (va_up I 28 (nI 0)) 26 (nI 255)) 27 (nI 0)) 28 (nI 1)) (va_up (va_up (va_up (va_up (va_up A 20 (upd (A 20) 0 (nI 0))) 21 (upd (A 21) 0 (nI 0))) 22 (upd (A 22) 0 (nI (4 * g + 2)))) 23 (upd (A 23) 0 o)) 24 (upd (A 24) 0 (nI 0))) J B 60 53 L xs X) _
  refine x_step (pc := 78) (pc' := 79) (st' := []) rfl rfl rfl rfl ?_
  refine x_al1 (pc := 79) rfl rfl ?_
  refine x_al1 (pc := 80) rfl rfl ?_
  refine g_1_2 (pc := 81) rfl rfl ?_
  refine x_const (pc := 84) (pc' := 85) (.int (nI 3)) rfl rfl rfl rfl ?_
  refine aal (pc := 85) (q := 3) (a := 28) rfl rfl (by decide) rfl ?_
  refine x_al1 (pc := 86) rfl rfl ?_
  refine g_1_10 (pc := 87) rfl rfl ?_
  refine x_k (pc := 90) rfl rfl rfl ⟨Nat.le_of_ble_eq_true rfl, Nat.le_of_ble_eq_true rfl, Nat.le_of_ble_eq_true rfl⟩ rfl (k_63_3_2 (mk := 60) (sn := 53) (I := va_up (va_up (va_up (va_up I 28 (nI 0)) 26 (nI 255)) 27 (nI 0)) 28 (nI 1)) (A := va_up (va_up (va_up (va_up (va_up A 20 (upd (A 20) 0 (nI 0))) 21 (upd (A 21) 0 (nI 0))) 22 (upd (A 22) 0 (nI (4 * g + 2)))) 23 (upd (A 23) 0 o)) 24 (upd (A 24) 0 (nI 0))) (S := S) (f := f) (N := N) (l := [(nI 0, nI 0, nI (4 * g + 2), o, nI 0)]) (p := nI 255) (q := nI 0) (kD_on hD ho (show Fr [26, 27, 28] I (va_up (va_up (va_up (va_up I 28 (nI 0)) 26 (nI 255)) 27 (nI 0)) 28 (nI 1)) from (Fr_u (Fr_u (Fr_u (Fr_u (Fr_refl _ _) (by decide)) (by decide)) (by decide)) (by decide))) (show Fr [20, 21, 22, 23, 24] A (va_up (va_up (va_up (va_up (va_up A 20 (upd (A 20) 0 (nI 0))) 21 (upd (A 21) 0 (nI 0))) 22 (upd (A 22) 0 (nI (4 * g + 2)))) 23 (upd (A 23) 0 o)) 24 (upd (A 24) 0 (nI 0))) from (Fr_u (Fr_u (Fr_u (Fr_u (Fr_u (Fr_refl _ _) (by decide)) (by decide)) (by decide)) (by decide)) (by decide))) (by decide) (by decide)) ho (Or.inr ⟨rfl, rfl⟩) hn hu hcn hc hf hsl hN hNb (BT_1 rfl rfl rfl (show upd (A 20) 0 (nI 0) 0 = nI 0 from pk_us) (show upd (A 21) 0 (nI 0) 0 = nI 0 from pk_us) (show upd (A 22) 0 (nI (4 * g + 2)) 0 = nI (4 * g + 2) from pk_us) (show upd (A 23) 0 o 0 = o from pk_us) (show upd (A 24) 0 (nI 0) 0 = nI 0 from pk_us)) (show 1 ≤ 1 by decide) (show 1 ≤ 4 by decide) hroom (fun S6 f6 c6 e6 o6 I6 A6 x6 y6 h6 n6 b6 d6 s6 => ?_) (fun S6 f6 c6 e6 o6 I6 A6 x6 y6 h6 => mK_x rfl (kx S6 f6 c6 e6 o6 I6 A6 (Up_tr (Up_fr (show Fr [26, 27, 28] I (va_up (va_up (va_up (va_up I 28 (nI 0)) 26 (nI 255)) 27 (nI 0)) 28 (nI 1)) from (Fr_u (Fr_u (Fr_u (Fr_u (Fr_refl _ _) (by decide)) (by decide)) (by decide)) (by decide))) (by decide)) x6) (Up_tr (Up_fr (show Fr [20, 21, 22, 23, 24] A (va_up (va_up (va_up (va_up (va_up A 20 (upd (A 20) 0 (nI 0))) 21 (upd (A 21) 0 (nI 0))) 22 (upd (A 22) 0 (nI (4 * g + 2)))) 23 (upd (A 23) 0 o)) 24 (upd (A 24) 0 (nI 0))) from (Fr_u (Fr_u (Fr_u (Fr_u (Fr_u (Fr_refl _ _) (by decide)) (by decide)) (by decide)) (by decide)) (by decide))) (by decide)) y6) h6)) (fun e6 I6 A6 x6 y6 => mK_x rfl (kr e6 I6 A6 (Fr_cons (Fr_u (Fr_u (Fr_u (Fr_u (Fr_refl _ _) (by decide)) (by decide)) (by decide)) (by decide)) x6 (by decide)) (Fr_cons (Fr_u (Fr_u (Fr_u (Fr_u (Fr_u (Fr_refl _ _) (by decide)) (by decide)) (by decide)) (by decide)) (by decide)) y6 (by decide)))))
  show mq 88 93 [some (.ref 1), some (.int (nI g)), some (.int (nI 2)), some (.int o), some (.int (nI ((4 * g) + 2)))] [.int (nI N)] (hS n u I6 A6 J B 60 53 L xs X) _
  refine x_step (pc := 93) (pc' := 94) (st' := []) rfl rfl rfl rfl ?_
  refine x_al1 (pc := 94) rfl rfl ?_
  refine g_1_3 (pc := 95) rfl rfl ?_
  refine x_il2 (pc := 98) rfl rfl ?_
  refine x_il1 (pc := 100) rfl rfl ?_
  refine as_33 (pc := 101) (q := 4 * g + 2) rfl rfl (by omega) ?_
  refine x_ret (pc := 102) rfl rfl ?_
  exact kk S6 f6 c6 e6 o6 _ _ (Fr_cons (Fr_u (Fr_u (Fr_u (Fr_u (Fr_refl _ _) (by decide)) (by decide)) (by decide)) (by decide)) x6 (by decide)) (Fr_u (Fr_cons (Fr_u (Fr_u (Fr_u (Fr_u (Fr_u (Fr_refl _ _) (by decide)) (by decide)) (by decide)) (by decide)) (by decide)) y6 (by decide)) (by decide)) (kD_on h6 o6 (Fr_refl [] I6) (Fr_up A6 1 _) (by decide) (by decide)) n6 d6 s6 (show upd (A6 1) (4 * g + 2) o = _ by rw [y6 1 (by decide)]; rfl)
set_option maxRecDepth 100000 in
set_option maxHeartbeats 4000000 in
theorem k_88_60_2 {S : DS} (hD : kD 53 S I A) (ho : dO S = false) {g : Nat} {o x y : Int32} (hg : g < 8) (ha : I 47 = x) (hb : I 48 = y) (hx1 : ¬ o < x) (hx2 : o ≤ y) {cn N : Nat} {f : Nat → Nat} (hcn : cn ≤ 16) (hc : I 49 = nI cn) (hf : ∀ k, k < cn → f k < 16) (hsl : ∀ j, j < cn → A 42 j = nI (f j)) (hN : I 51 = nI N) (hNb : N + 4 < 2 ^ 31) (hroom : frS (dD S) 16 0 = -1 ∨ cn < 16) (hn : 77 ≤ n ∧ n < 10000) (hu : u + 6 < 1000000) {Q : mO × mHp → Prop} (kk : ∀ S' f' cn', apS S 3 f cn N (nI 255) (nI 0) (nmb N [(nI 0, nI 0, nI (4 * g + 2), o, nI 0)]) = some (S', f', cn') → dO S' = false → ∀ I' A', Fr [2, 3, 14, 15, 49, 51, 29, 30, 31] I I' → Fr [0, 1, 3, 4, 42, 25, 26, 27, 28, 29] A A' → kD 53 S' I' A' → I' 51 = nI (N + 1) → I' 49 = nI cn' → (∀ j, j < cn' → A' 42 j = nI (f' j)) → A' 1 = upd (A 1) (4 * g + 2) o → Q (.inl none, hS n u I' A' J B 53 60 L xs X)) (kx : ∀ S' f' cn', apS S 3 f cn N (nI 255) (nI 0) (nmb N [(nI 0, nI 0, nI (4 * g + 2), o, nI 0)]) = some (S', f', cn') → dO S' = true → ∀ I' A', Up 60 I I' → Up 50 A A' → kD 53 S' I' A' → Q (.inr n, hS (n + 1) (u + 6) I' A' J B 53 60 L xs (va_up X n (.inr (9, []))))) (kr : apS S 3 f cn N (nI 255) (nI 0) (nmb N [(nI 0, nI 0, nI (4 * g + 2), o, nI 0)]) = none → ∀ I' A', Fr [14, 29, 30, 31] I I' → Fr [3, 25, 26, 27, 28, 29] A A' → Q (.inr n, hS (n + 1) (u + 6) I' A' J B 53 60 L xs (va_up X n (.inr (11, []))))) : mq 88 0 [some (.ref 1), some (.int (nI g)), some (.int (nI 2)), some (.int o), none] [] (hS n u I A J B 53 60 L xs X) Q := by
  refine x_al1 (pc := 0) rfl rfl ?_
  refine x_k (pc := 1) rfl rfl rfl ⟨Nat.le_of_ble_eq_true rfl, Nat.le_of_ble_eq_true rfl, Nat.le_of_ble_eq_true rfl⟩ rfl (k_60 (I := I) (kD_1 hD ho) ?_)
  show mq 88 4 [some (.ref 1), some (.int (nI g)), some (.int (nI 2)), some (.int o), none] [] (hS n u I A J B 53 60 L xs X) _
  refine x_il1 (pc := 4) rfl rfl ?_
  refine x_il1 (pc := 5) rfl rfl ?_
  refine x_k (pc := 6) rfl rfl rfl ⟨Nat.le_of_ble_eq_true rfl, Nat.le_of_ble_eq_true rfl, Nat.le_of_ble_eq_true rfl⟩ rfl (k_89 (I := I) (A := A) hg (by decide) ?_)
  show mq 88 9 [some (.ref 1), some (.int (nI g)), some (.int (nI 2)), some (.int o), none] [.int (nI 1)] (hS n u I A J B 53 60 L xs X) _
  refine x_ifN_ne (pc := 9) (t := 22) rfl rfl (by decide) (fun _ => ?_) (fun c => absurd c (by decide))
  refine x_al1 (pc := 22) rfl rfl ?_
  refine x_al1 (pc := 23) rfl rfl ?_
  refine g_1_2 (pc := 24) rfl rfl ?_
  refine x_il1 (pc := 27) rfl rfl ?_
  refine aal (pc := 28) (q := 2) (a := 23) rfl rfl (by decide) rfl ?_
  refine x_il1 (pc := 29) rfl rfl ?_
  refine x_k (pc := 30) rfl rfl rfl ⟨Nat.le_of_ble_eq_true rfl, Nat.le_of_ble_eq_true rfl, Nat.le_of_ble_eq_true rfl⟩ rfl (k_77_2 (I := I) (A := A) ha hb hx1 hx2 ?_)
  show mq 88 33 [some (.ref 1), some (.int (nI g)), some (.int (nI 2)), some (.int o), none] [] (hS n u I A J B 53 60 L xs X) _
  refine x_const (pc := 33) (pc' := 34) (.int (nI 4)) rfl rfl rfl rfl ?_
  refine x_il1 (pc := 34) rfl rfl ?_
  refine x_imulN (pc := 35) (c := 4 * g) rfl rfl ?_
  refine x_il1 (pc := 36) rfl rfl ?_
  refine x_iaddN (pc := 37) (c := (4 * g) + 2) rfl rfl ?_
  refine x_is2 (pc := 38) (ml' := [some (.ref 1), some (.int (nI g)), some (.int (nI 2)), some (.int o), some (.int (nI ((4 * g) + 2)))]) rfl rfl ?_
  refine x_al1 (pc := 40) rfl rfl ?_
  refine g_1_10 (pc := 41) rfl rfl ?_
  refine g_60_0 (pc := 44) rfl rfl ?_
  refine x_const (pc := 47) (pc' := 48) (.int (nI 0)) rfl rfl rfl rfl ?_
  refine p_61_5 (pc := 48) rfl rfl ?_
  refine x_al1 (pc := 51) rfl rfl ?_
  refine g_1_10 (pc := 52) rfl rfl ?_
  refine x_const (pc := 55) (pc' := 58) (.int (nI 255)) rfl rfl rfl rfl ?_
  refine x_const (pc := 58) (pc' := 59) (.int (nI 0)) rfl rfl rfl rfl ?_
  refine x_k (pc := 59) rfl rfl rfl ⟨Nat.le_of_ble_eq_true rfl, Nat.le_of_ble_eq_true rfl, Nat.le_of_ble_eq_true rfl⟩ rfl (mq_k (c_43_3 (I := va_up I 31 (nI 0)) (A := A) _ _) ?_)
  show mq 88 62 [some (.ref 1), some (.int (nI g)), some (.int (nI 2)), some (.int o), some (.int (nI ((4 * g) + 2)))] [] (hS n u (va_up (va_up (va_up I 31 (nI 0)) 29 (nI 255)) 30 (nI 0)) A J B 53 60 L xs X) _
  refine x_al1 (pc := 62) rfl rfl ?_
  refine g_1_10 (pc := 63) rfl rfl ?_
  refine g_60_0 (pc := 66) rfl rfl ?_
  refine x_const (pc := 69) (pc' := 70) (.int (nI 0)) rfl rfl rfl rfl ?_
  refine x_const (pc := 70) (pc' := 71) (.int (nI 0)) rfl rfl rfl rfl ?_
  refine x_il2 (pc := 71) rfl rfl ?_
  refine x_il1 (pc := 73) rfl rfl ?_
  refine x_const (pc := 74) (pc' := 75) (.int (nI 0)) rfl rfl rfl rfl ?_
  refine x_k (pc := 75) rfl rfl rfl ⟨Nat.le_of_ble_eq_true rfl, Nat.le_of_ble_eq_true rfl, Nat.le_of_ble_eq_true rfl⟩ rfl (mq_k (c_12_61 (I := va_up (va_up (va_up I 31 (nI 0)) 29 (nI 255)) 30 (nI 0)) (A := A) (m := 0) rfl (by decide) _ _ _ _ _) ?_)
  show mq 88 78 [some (.ref 1), some (.int (nI g)), some (.int (nI 2)), some (.int o), some (.int (nI ((4 * g) + 2)))] [.int 1] (hS n u (va_up (va_up (va_up (va_up I 31 (nI 0)) 29 (nI 255)) 30 (nI 0)) 31 (nI 1)) (va_up (va_up (va_up (va_up (va_up A 25 (upd (A 25) 0 (nI 0))) 26 (upd (A 26) 0 (nI 0))) 27 (upd (A 27) 0 (nI (4 * g + 2)))) 28 (upd (A 28) 0 o)) 29 (upd (A 29) 0 (nI 0))) J B 53 60 L xs X) _
  refine x_step (pc := 78) (pc' := 79) (st' := []) rfl rfl rfl rfl ?_
  refine x_al1 (pc := 79) rfl rfl ?_
  refine x_al1 (pc := 80) rfl rfl ?_
  refine g_1_2 (pc := 81) rfl rfl ?_
  refine x_const (pc := 84) (pc' := 85) (.int (nI 3)) rfl rfl rfl rfl ?_
  refine aal (pc := 85) (q := 3) (a := 28) rfl rfl (by decide) rfl ?_
  refine x_al1 (pc := 86) rfl rfl ?_
  refine g_1_10 (pc := 87) rfl rfl ?_
  refine x_k (pc := 90) rfl rfl rfl ⟨Nat.le_of_ble_eq_true rfl, Nat.le_of_ble_eq_true rfl, Nat.le_of_ble_eq_true rfl⟩ rfl (k_63_3_3 (mk := 53) (sn := 60) (I := va_up (va_up (va_up (va_up I 31 (nI 0)) 29 (nI 255)) 30 (nI 0)) 31 (nI 1)) (A := va_up (va_up (va_up (va_up (va_up A 25 (upd (A 25) 0 (nI 0))) 26 (upd (A 26) 0 (nI 0))) 27 (upd (A 27) 0 (nI (4 * g + 2)))) 28 (upd (A 28) 0 o)) 29 (upd (A 29) 0 (nI 0))) (S := S) (f := f) (N := N) (l := [(nI 0, nI 0, nI (4 * g + 2), o, nI 0)]) (p := nI 255) (q := nI 0) (kD_on hD ho (show Fr [29, 30, 31] I (va_up (va_up (va_up (va_up I 31 (nI 0)) 29 (nI 255)) 30 (nI 0)) 31 (nI 1)) from (Fr_u (Fr_u (Fr_u (Fr_u (Fr_refl _ _) (by decide)) (by decide)) (by decide)) (by decide))) (show Fr [25, 26, 27, 28, 29] A (va_up (va_up (va_up (va_up (va_up A 25 (upd (A 25) 0 (nI 0))) 26 (upd (A 26) 0 (nI 0))) 27 (upd (A 27) 0 (nI (4 * g + 2)))) 28 (upd (A 28) 0 o)) 29 (upd (A 29) 0 (nI 0))) from (Fr_u (Fr_u (Fr_u (Fr_u (Fr_u (Fr_refl _ _) (by decide)) (by decide)) (by decide)) (by decide)) (by decide))) (by decide) (by decide)) ho (Or.inl ⟨rfl, rfl⟩) hn hu hcn hc hf hsl hN hNb (BT_1 rfl rfl rfl (show upd (A 25) 0 (nI 0) 0 = nI 0 from pk_us) (show upd (A 26) 0 (nI 0) 0 = nI 0 from pk_us) (show upd (A 27) 0 (nI (4 * g + 2)) 0 = nI (4 * g + 2) from pk_us) (show upd (A 28) 0 o 0 = o from pk_us) (show upd (A 29) 0 (nI 0) 0 = nI 0 from pk_us)) (show 1 ≤ 1 by decide) (show 1 ≤ 4 by decide) hroom (fun S6 f6 c6 e6 o6 I6 A6 x6 y6 h6 n6 b6 d6 s6 => ?_) (fun S6 f6 c6 e6 o6 I6 A6 x6 y6 h6 => mK_x rfl (kx S6 f6 c6 e6 o6 I6 A6 (Up_tr (Up_fr (show Fr [29, 30, 31] I (va_up (va_up (va_up (va_up I 31 (nI 0)) 29 (nI 255)) 30 (nI 0)) 31 (nI 1)) from (Fr_u (Fr_u (Fr_u (Fr_u (Fr_refl _ _) (by decide)) (by decide)) (by decide)) (by decide))) (by decide)) x6) (Up_tr (Up_fr (show Fr [25, 26, 27, 28, 29] A (va_up (va_up (va_up (va_up (va_up A 25 (upd (A 25) 0 (nI 0))) 26 (upd (A 26) 0 (nI 0))) 27 (upd (A 27) 0 (nI (4 * g + 2)))) 28 (upd (A 28) 0 o)) 29 (upd (A 29) 0 (nI 0))) from (Fr_u (Fr_u (Fr_u (Fr_u (Fr_u (Fr_refl _ _) (by decide)) (by decide)) (by decide)) (by decide)) (by decide))) (by decide)) y6) h6)) (fun e6 I6 A6 x6 y6 => mK_x rfl (kr e6 I6 A6 (Fr_cons (Fr_u (Fr_u (Fr_u (Fr_u (Fr_refl _ _) (by decide)) (by decide)) (by decide)) (by decide)) x6 (by decide)) (Fr_cons (Fr_u (Fr_u (Fr_u (Fr_u (Fr_u (Fr_refl _ _) (by decide)) (by decide)) (by decide)) (by decide)) (by decide)) y6 (by decide)))))
  show mq 88 93 [some (.ref 1), some (.int (nI g)), some (.int (nI 2)), some (.int o), some (.int (nI ((4 * g) + 2)))] [.int (nI N)] (hS n u I6 A6 J B 53 60 L xs X) _
  refine x_step (pc := 93) (pc' := 94) (st' := []) rfl rfl rfl rfl ?_
  refine x_al1 (pc := 94) rfl rfl ?_
  refine g_1_3 (pc := 95) rfl rfl ?_
  refine x_il2 (pc := 98) rfl rfl ?_
  refine x_il1 (pc := 100) rfl rfl ?_
  refine as_33 (pc := 101) (q := 4 * g + 2) rfl rfl (by omega) ?_
  refine x_ret (pc := 102) rfl rfl ?_
  exact kk S6 f6 c6 e6 o6 _ _ (Fr_cons (Fr_u (Fr_u (Fr_u (Fr_u (Fr_refl _ _) (by decide)) (by decide)) (by decide)) (by decide)) x6 (by decide)) (Fr_u (Fr_cons (Fr_u (Fr_u (Fr_u (Fr_u (Fr_u (Fr_refl _ _) (by decide)) (by decide)) (by decide)) (by decide)) (by decide)) y6 (by decide)) (by decide)) (kD_on h6 o6 (Fr_refl [] I6) (Fr_up A6 1 _) (by decide) (by decide)) n6 d6 s6 (show upd (A6 1) (4 * g + 2) o = _ by rw [y6 1 (by decide)]; rfl)
end S58
