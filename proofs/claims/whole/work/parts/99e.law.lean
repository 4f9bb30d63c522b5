/-! The law: one call. -/
theorem lg_self (x : Int64) : lg_cmp x x = nI 0 := by
  unfold lg_cmp
  rw [if_neg (fun h => absurd h (Int64.lt_irrefl)), if_pos rfl]
  rfl
section S99e
variable {n u : Nat} {I : Nat → Int32} {A : Nat → Nat → Int32} {J : Int64} {B : Nat → Int64} {mk sn L : Nat} {xs : Nat → Int32} {X : Nat → mC} {D : Nat → Nat} {S : DS} {k : Nat}
theorem x_scr {mi pc j : Nat} {ml : mLs} {r : List Value} {Q : mO × mHp → Prop} (hi : mPi tbP mi pc = some (.iaload, 1)) (hj : j < L) (hL : L ≤ 2048) (kk : mq mi (pc + 1) ml (.int (xs j) :: r) (hS n u I A J B mk sn L xs X) Q) : mq mi pc ml (.int (nI j) :: .ref 0 :: r) (hS n u I A J B mk sn L xs X) Q := by
  refine x_step (pc' := pc + 1) (ml' := ml) (st' := .int (xs j) :: r) (hp' := hS n u I A J B mk sn L xs X) hi rfl rfl ?_ kk
  have e : HPf (HPl I A J B mk sn L xs) X 0 = .inl (.boolean, L, .inl xs) := rfl
  simp only [mstep, miald, e]
  rw [if_pos ⟨Or.inr trivial, mIn_nI hj (by omega)⟩, nI_clamp (by omega)]
theorem x_len0 {mi pc : Nat} {ml : mLs} {r : List Value} {Q : mO × mHp → Prop} (hi : mPi tbP mi pc = some (.arraylength, 1)) (kk : mq mi (pc + 1) ml (.int (nI L) :: r) (hS n u I A J B mk sn L xs X) Q) : mq mi pc ml (.ref 0 :: r) (hS n u I A J B mk sn L xs X) Q := by
  refine x_step (pc' := pc + 1) (ml' := ml) (st' := .int (nI L) :: r) (hp' := hS n u I A J B mk sn L xs X) hi rfl rfl ?_ kk
  have e : HPf (HPl I A J B mk sn L xs) X 0 = .inl (.boolean, L, .inl xs) := rfl
  simp only [mstep, malen, e]
  rw [if_pos (Or.inr trivial)]
  rfl
/-- one entry of the script -/
theorem q_scr {pc i c : Nat} {nn : Int} {ml : mLs} {r : List Value} {Q : mO × mHp → Prop} (h0 : mPi tbP 161 pc = some (.aload_n 0, 1)) (h1 : mPi tbP 161 (pc + 1) = some (.iload 4, 2)) (h2 : mPi tbP 161 (pc + 3) = some (.iconst nn, 1)) (h3 : mPi tbP 161 (pc + 4) = some (.iadd, 1)) (h4 : mPi tbP 161 (pc + 5) = some (.iaload, 1)) (hc : Int32.ofInt nn = nI c) (g0 : mget ml 0 = some (.ref 0)) (g4 : mget ml 4 = some (.int (nI i))) (hi : i + c < L) (hL : L ≤ 2048) (kk : mq 161 (pc + 6) ml (.int (xs (i + c)) :: r) (hS n u I A J B mk sn L xs X) Q) : mq 161 pc ml r (hS n u I A J B mk sn L xs X) Q := by
  refine x_al1 h0 g0 ?_
  refine x_il2 h1 g4 ?_
  refine x_const (pc' := pc + 4) (.int (nI c)) h2 rfl rfl (by rw [← hc]; rfl) ?_
  refine x_iaddN h3 rfl ?_
  exact x_scr h4 hi hL kk
set_option maxRecDepth 100000 in
set_option maxHeartbeats 4000000 in
theorem la_0 {i : Nat} (h : INV k S I A mk sn) (hk : k ≤ 1000) (hn : 77 ≤ n ∧ n < 10000) (hu : u + 6 < 1000000) (hi : i + 4 ≤ L) (hL : L ≤ 2048) {l5 l6 : Option Value} {Q : mO × mHp → Prop} (kk : ∀ n' u' I' A' J' B' mk' sn' X' S' l5' l6', INV (k + 1) S' I' A' mk' sn' → n ≤ n' → n' ≤ n + 1 → u' ≤ u + 6 → mq 161 948 [some (.ref 0), some (.ref 1), some (.ref 67), some (.ref 76), some (.int (nI i)), l5', l6'] [] (hS n' u' I' A' J' B' mk' sn' L xs X') Q) : mq 161 116 [some (.ref 0), some (.ref 1), some (.ref 67), some (.ref 76), some (.int (nI i)), l5, l6] [] (hS n u I A J B mk sn L xs X) Q := by
  refine x_al1 (pc := 116) rfl rfl ?_
  refine q_scr (pc := 117) (c := 1) rfl rfl rfl rfl rfl (by decide) rfl rfl (by omega) hL ?_
  refine q_scr (pc := 123) (c := 2) rfl rfl rfl rfl rfl (by decide) rfl rfl (by omega) hL ?_
  refine q_scr (pc := 129) (c := 3) rfl rfl rfl rfl rfl (by decide) rfl rfl (by omega) hL ?_
  refine x_k (pc := 135) rfl rfl rfl ⟨Nat.le_of_ble_eq_true rfl, Nat.le_of_ble_eq_true rfl, Nat.le_of_ble_eq_true rfl⟩ rfl (mq_mono (fun o ho => ?_) (op_add h _ _ _))
  obtain ⟨v, I1, A1, mk1, sn1, e, hm⟩ := ho
  subst e
  show mq 161 138 [some (.ref 0), some (.ref 1), some (.ref 67), some (.ref 76), some (.int (nI i)), l5, l6] [.int v] (hS n u I1 A1 J B mk1 sn1 L xs X) Q
  refine x_al1 (pc := 138) rfl rfl ?_
  refine q_scr (pc := 139) (c := 1) rfl rfl rfl rfl rfl (by decide) rfl rfl (by omega) hL ?_
  refine q_scr (pc := 145) (c := 2) rfl rfl rfl rfl rfl (by decide) rfl rfl (by omega) hL ?_
  refine q_scr (pc := 151) (c := 3) rfl rfl rfl rfl rfl (by decide) rfl rfl (by omega) hL ?_
  refine x_k (pc := 157) rfl rfl rfl ⟨Nat.le_of_ble_eq_true rfl, Nat.le_of_ble_eq_true rfl, Nat.le_of_ble_eq_true rfl⟩ rfl (mq_mono (fun o2 ho2 => ?_) hm)
  obtain ⟨S2, I2, A2, e2, hI⟩ := ho2
  subst e2
  show mq 161 160 [some (.ref 0), some (.ref 1), some (.ref 67), some (.ref 76), some (.int (nI i)), l5, l6] [.int v, .int v] (hS n u I2 A2 J B mk1 sn1 L xs X) Q
  exact x_cmp_eq (pc := 160) (t := 948) rfl rfl rfl (fun _ => kk n u I2 A2 J B mk1 sn1 X S2 l5 l6 hI (Nat.le_refl _) (Nat.le_succ _) (Nat.le_add_right _ _)) (fun q => absurd rfl q)
set_option maxRecDepth 100000 in
set_option maxHeartbeats 4000000 in
theorem la_1 {i : Nat} (h : INV k S I A mk sn) (hk : k ≤ 1000) (hn : 77 ≤ n ∧ n < 10000) (hu : u + 6 < 1000000) (hi : i + 4 ≤ L) (hL : L ≤ 2048) {l5 l6 : Option Value} {Q : mO × mHp → Prop} (kk : ∀ n' u' I' A' J' B' mk' sn' X' S' l5' l6', INV (k + 1) S' I' A' mk' sn' → n ≤ n' → n' ≤ n + 1 → u' ≤ u + 6 → mq 161 948 [some (.ref 0), some (.ref 1), some (.ref 67), some (.ref 76), some (.int (nI i)), l5', l6'] [] (hS n' u' I' A' J' B' mk' sn' L xs X') Q) : mq 161 165 [some (.ref 0), some (.ref 1), some (.ref 67), some (.ref 76), some (.int (nI i)), l5, l6] [] (hS n u I A J B mk sn L xs X) Q := by
  refine x_al1 (pc := 165) rfl rfl ?_
  refine q_scr (pc := 166) (c := 1) rfl rfl rfl rfl rfl (by decide) rfl rfl (by omega) hL ?_
  refine q_scr (pc := 172) (c := 2) rfl rfl rfl rfl rfl (by decide) rfl rfl (by omega) hL ?_
  refine x_k (pc := 178) rfl rfl rfl ⟨Nat.le_of_ble_eq_true rfl, Nat.le_of_ble_eq_true rfl, Nat.le_of_ble_eq_true rfl⟩ rfl (mq_mono (fun o ho => ?_) (op_erase h _ _))
  obtain ⟨v, I1, A1, mk1, sn1, e, hm⟩ := ho
  subst e
  show mq 161 181 [some (.ref 0), some (.ref 1), some (.ref 67), some (.ref 76), some (.int (nI i)), l5, l6] [.int v] (hS n u I1 A1 J B mk1 sn1 L xs X) Q
  refine x_al1 (pc := 181) rfl rfl ?_
  refine q_scr (pc := 182) (c := 1) rfl rfl rfl rfl rfl (by decide) rfl rfl (by omega) hL ?_
  refine q_scr (pc := 188) (c := 2) rfl rfl rfl rfl rfl (by decide) rfl rfl (by omega) hL ?_
  refine x_k (pc := 194) rfl rfl rfl ⟨Nat.le_of_ble_eq_true rfl, Nat.le_of_ble_eq_true rfl, Nat.le_of_ble_eq_true rfl⟩ rfl (mq_mono (fun o2 ho2 => ?_) hm)
  obtain ⟨S2, I2, A2, e2, hI⟩ := ho2
  subst e2
  show mq 161 197 [some (.ref 0), some (.ref 1), some (.ref 67), some (.ref 76), some (.int (nI i)), l5, l6] [.int v, .int v] (hS n u I2 A2 J B mk1 sn1 L xs X) Q
  exact x_cmp_eq (pc := 197) (t := 948) rfl rfl rfl (fun _ => kk n u I2 A2 J B mk1 sn1 X S2 l5 l6 hI (Nat.le_refl _) (Nat.le_succ _) (Nat.le_add_right _ _)) (fun q => absurd rfl q)
set_option maxRecDepth 100000 in
set_option maxHeartbeats 4000000 in
theorem la_2 {i : Nat} (h : INV k S I A mk sn) (hk : k ≤ 1000) (hn : 77 ≤ n ∧ n < 10000) (hu : u + 6 < 1000000) (hi : i + 4 ≤ L) (hL : L ≤ 2048) {l5 l6 : Option Value} {Q : mO × mHp → Prop} (kk : ∀ n' u' I' A' J' B' mk' sn' X' S' l5' l6', INV (k + 1) S' I' A' mk' sn' → n ≤ n' → n' ≤ n + 1 → u' ≤ u + 6 → mq 161 948 [some (.ref 0), some (.ref 1), some (.ref 67), some (.ref 76), some (.int (nI i)), l5', l6'] [] (hS n' u' I' A' J' B' mk' sn' L xs X') Q) : mq 161 202 [some (.ref 0), some (.ref 1), some (.ref 67), some (.ref 76), some (.int (nI i)), l5, l6] [] (hS n u I A J B mk sn L xs X) Q := by
  refine x_al1 (pc := 202) rfl rfl ?_
  refine q_scr (pc := 203) (c := 1) rfl rfl rfl rfl rfl (by decide) rfl rfl (by omega) hL ?_
  refine q_scr (pc := 209) (c := 2) rfl rfl rfl rfl rfl (by decide) rfl rfl (by omega) hL ?_
  refine q_scr (pc := 215) (c := 3) rfl rfl rfl rfl rfl (by decide) rfl rfl (by omega) hL ?_
  refine x_al1 (pc := 221) rfl rfl ?_
  refine x_k (pc := 222) rfl rfl rfl ⟨Nat.le_of_ble_eq_true rfl, Nat.le_of_ble_eq_true rfl, Nat.le_of_ble_eq_true rfl⟩ rfl (mq_mono (fun o ho => ?_) (op_produce h hk hn hu _ _ _))
  obtain ⟨cd, n1, u1, I1, A1, J1, B1, mk1, sn1, X1, e, hcd, hn1, hn2, hu1, hm⟩ := ho
  subst e
  show mq 161 225 [some (.ref 0), some (.ref 1), some (.ref 67), some (.ref 76), some (.int (nI i)), l5, l6] [.int (nI cd)] (hS n1 u1 I1 A1 J1 B1 mk1 sn1 L xs X1) Q
  refine x_is2 (pc := 225) (ml' := [some (.ref 0), some (.ref 1), some (.ref 67), some (.ref 76), some (.int (nI i)), some (.int (nI cd)), l6]) rfl rfl ?_
  refine x_al1 (pc := 227) rfl rfl ?_
  refine q_scr (pc := 228) (c := 1) rfl rfl rfl rfl rfl (by decide) rfl rfl (by omega) hL ?_
  refine q_scr (pc := 234) (c := 2) rfl rfl rfl rfl rfl (by decide) rfl rfl (by omega) hL ?_
  refine q_scr (pc := 240) (c := 3) rfl rfl rfl rfl rfl (by decide) rfl rfl (by omega) hL ?_
  refine x_k (pc := 246) rfl rfl rfl ⟨Nat.le_of_ble_eq_true rfl, Nat.le_of_ble_eq_true rfl, Nat.le_of_ble_eq_true rfl⟩ rfl (mq_mono (fun o2 ho2 => ?_) hm)
  obtain ⟨b, S2, I2, A2, e2, e60, eb, hI⟩ := ho2
  subst e2
  show mq 161 249 [some (.ref 0), some (.ref 1), some (.ref 67), some (.ref 76), some (.int (nI i)), some (.int (nI cd)), l6] [.int b] (hS n1 u1 I2 A2 J1 B1 mk1 sn1 L xs X1) Q
  refine x_is2 (pc := 249) (ml' := [some (.ref 0), some (.ref 1), some (.ref 67), some (.ref 76), some (.int (nI i)), some (.int (nI cd)), some (.int b)]) rfl rfl ?_
  refine x_al1 (pc := 251) rfl rfl ?_
  refine x_k (pc := 252) rfl rfl rfl ⟨Nat.le_of_ble_eq_true rfl, Nat.le_of_ble_eq_true rfl, Nat.le_of_ble_eq_true rfl⟩ rfl (k_109 e60 ?_)
  show mq 161 255 [some (.ref 0), some (.ref 1), some (.ref 67), some (.ref 76), some (.int (nI i)), some (.int (nI cd)), some (.int b)] [.int (nI cd)] (hS n1 u1 I2 A2 J1 B1 mk1 sn1 L xs X1) Q
  refine x_il2 (pc := 255) rfl rfl ?_
  refine x_cmp_eq (pc := 257) (t := 262) rfl rfl rfl (fun _ => ?_) (fun q => absurd rfl q)
  have hg : mq 161 279 [some (.ref 0), some (.ref 1), some (.ref 67), some (.ref 76), some (.int (nI i)), some (.int (nI cd)), some (.int b)] [] (hS n1 u1 I2 A2 J1 B1 mk1 sn1 L xs X1) Q := x_step (pc := 279) (pc' := 948) rfl rfl rfl rfl (kk _ _ _ _ _ _ _ _ _ S2 _ _ hI hn1 hn2 hu1)
  refine x_il2 (pc := 262) rfl rfl ?_
  refine x_ifN_ne (pc := 264) (t := 279) rfl rfl (by omega) (fun _ => hg) (fun e0 => ?_)
  refine x_al1 (pc := 267) rfl rfl ?_
  refine x_const (pc := 268) (pc' := 269) (.int (nI 0)) rfl rfl rfl rfl ?_
  refine x_laldB (pc := 269) rfl rfl ?_
  refine x_il2 (pc := 270) rfl rfl ?_
  refine x_i2l (pc := 272) rfl rfl ?_
  refine x_step (pc := 273) (pc' := 274) (st' := [.int (lg_cmp (B1 0) b.toInt64)]) rfl rfl rfl rfl ?_
  rw [eb e0, lg_self]
  exact x_if_eq (pc := 274) (t := 279) rfl rfl rfl (fun _ => hg) (fun q => absurd rfl q)
set_option maxRecDepth 100000 in
set_option maxHeartbeats 4000000 in
theorem la_3 {i : Nat} (h : INV k S I A mk sn) (hk : k ≤ 1000) (hn : 77 ≤ n ∧ n < 10000) (hu : u + 6 < 1000000) (hi : i + 4 ≤ L) (hL : L ≤ 2048) {l5 l6 : Option Value} {Q : mO × mHp → Prop} (kk : ∀ n' u' I' A' J' B' mk' sn' X' S' l5' l6', INV (k + 1) S' I' A' mk' sn' → n ≤ n' → n' ≤ n + 1 → u' ≤ u + 6 → mq 161 948 [some (.ref 0), some (.ref 1), some (.ref 67), some (.ref 76), some (.int (nI i)), l5', l6'] [] (hS n' u' I' A' J' B' mk' sn' L xs X') Q) : mq 161 282 [some (.ref 0), some (.ref 1), some (.ref 67), some (.ref 76), some (.int (nI i)), l5, l6] [] (hS n u I A J B mk sn L xs X) Q := by
  refine x_al1 (pc := 282) rfl rfl ?_
  refine q_scr (pc := 283) (c := 1) rfl rfl rfl rfl rfl (by decide) rfl rfl (by omega) hL ?_
  refine q_scr (pc := 289) (c := 2) rfl rfl rfl rfl rfl (by decide) rfl rfl (by omega) hL ?_
  refine q_scr (pc := 295) (c := 3) rfl rfl rfl rfl rfl (by decide) rfl rfl (by omega) hL ?_
  refine x_al1 (pc := 301) rfl rfl ?_
  refine x_k (pc := 302) rfl rfl rfl ⟨Nat.le_of_ble_eq_true rfl, Nat.le_of_ble_eq_true rfl, Nat.le_of_ble_eq_true rfl⟩ rfl (mq_mono (fun o ho => ?_) (op_fetch h hk hn hu _ _ _))
  obtain ⟨cd, n1, u1, I1, A1, J1, B1, mk1, sn1, X1, e, hcd, hn1, hn2, hu1, hm⟩ := ho
  subst e
  show mq 161 305 [some (.ref 0), some (.ref 1), some (.ref 67), some (.ref 76), some (.int (nI i)), l5, l6] [.int (nI cd)] (hS n1 u1 I1 A1 J1 B1 mk1 sn1 L xs X1) Q
  refine x_is2 (pc := 305) (ml' := [some (.ref 0), some (.ref 1), some (.ref 67), some (.ref 76), some (.int (nI i)), some (.int (nI cd)), l6]) rfl rfl ?_
  refine x_al1 (pc := 307) rfl rfl ?_
  refine q_scr (pc := 308) (c := 1) rfl rfl rfl rfl rfl (by decide) rfl rfl (by omega) hL ?_
  refine q_scr (pc := 314) (c := 2) rfl rfl rfl rfl rfl (by decide) rfl rfl (by omega) hL ?_
  refine q_scr (pc := 320) (c := 3) rfl rfl rfl rfl rfl (by decide) rfl rfl (by omega) hL ?_
  refine x_k (pc := 326) rfl rfl rfl ⟨Nat.le_of_ble_eq_true rfl, Nat.le_of_ble_eq_true rfl, Nat.le_of_ble_eq_true rfl⟩ rfl (mq_mono (fun o2 ho2 => ?_) hm)
  obtain ⟨b, S2, I2, A2, e2, e60, eb, hI⟩ := ho2
  subst e2
  show mq 161 329 [some (.ref 0), some (.ref 1), some (.ref 67), some (.ref 76), some (.int (nI i)), some (.int (nI cd)), l6] [.int b] (hS n1 u1 I2 A2 J1 B1 mk1 sn1 L xs X1) Q
  refine x_is2 (pc := 329) (ml' := [some (.ref 0), some (.ref 1), some (.ref 67), some (.ref 76), some (.int (nI i)), some (.int (nI cd)), some (.int b)]) rfl rfl ?_
  refine x_al1 (pc := 331) rfl rfl ?_
  refine x_k (pc := 332) rfl rfl rfl ⟨Nat.le_of_ble_eq_true rfl, Nat.le_of_ble_eq_true rfl, Nat.le_of_ble_eq_true rfl⟩ rfl (k_109 e60 ?_)
  show mq 161 335 [some (.ref 0), some (.ref 1), some (.ref 67), some (.ref 76), some (.int (nI i)), some (.int (nI cd)), some (.int b)] [.int (nI cd)] (hS n1 u1 I2 A2 J1 B1 mk1 sn1 L xs X1) Q
  refine x_il2 (pc := 335) rfl rfl ?_
  refine x_cmp_eq (pc := 337) (t := 342) rfl rfl rfl (fun _ => ?_) (fun q => absurd rfl q)
  have hg : mq 161 359 [some (.ref 0), some (.ref 1), some (.ref 67), some (.ref 76), some (.int (nI i)), some (.int (nI cd)), some (.int b)] [] (hS n1 u1 I2 A2 J1 B1 mk1 sn1 L xs X1) Q := x_step (pc := 359) (pc' := 948) rfl rfl rfl rfl (kk _ _ _ _ _ _ _ _ _ S2 _ _ hI hn1 hn2 hu1)
  refine x_il2 (pc := 342) rfl rfl ?_
  refine x_ifN_ne (pc := 344) (t := 359) rfl rfl (by omega) (fun _ => hg) (fun e0 => ?_)
  refine x_al1 (pc := 347) rfl rfl ?_
  refine x_const (pc := 348) (pc' := 349) (.int (nI 0)) rfl rfl rfl rfl ?_
  refine x_laldB (pc := 349) rfl rfl ?_
  refine x_il2 (pc := 350) rfl rfl ?_
  refine x_i2l (pc := 352) rfl rfl ?_
  refine x_step (pc := 353) (pc' := 354) (st' := [.int (lg_cmp (B1 0) b.toInt64)]) rfl rfl rfl rfl ?_
  rw [eb e0, lg_self]
  exact x_if_eq (pc := 354) (t := 359) rfl rfl rfl (fun _ => hg) (fun q => absurd rfl q)
set_option maxRecDepth 100000 in
set_option maxHeartbeats 4000000 in
theorem la_4 {i : Nat} (h : INV k S I A mk sn) (hk : k ≤ 1000) (hn : 77 ≤ n ∧ n < 10000) (hu : u + 6 < 1000000) (hi : i + 4 ≤ L) (hL : L ≤ 2048) {l5 l6 : Option Value} {Q : mO × mHp → Prop} (kk : ∀ n' u' I' A' J' B' mk' sn' X' S' l5' l6', INV (k + 1) S' I' A' mk' sn' → n ≤ n' → n' ≤ n + 1 → u' ≤ u + 6 → mq 161 948 [some (.ref 0), some (.ref 1), some (.ref 67), some (.ref 76), some (.int (nI i)), l5', l6'] [] (hS n' u' I' A' J' B' mk' sn' L xs X') Q) : mq 161 362 [some (.ref 0), some (.ref 1), some (.ref 67), some (.ref 76), some (.int (nI i)), l5, l6] [] (hS n u I A J B mk sn L xs X) Q := by
  refine x_al1 (pc := 362) rfl rfl ?_
  refine q_scr (pc := 363) (c := 1) rfl rfl rfl rfl rfl (by decide) rfl rfl (by omega) hL ?_
  refine q_scr (pc := 369) (c := 2) rfl rfl rfl rfl rfl (by decide) rfl rfl (by omega) hL ?_
  refine x_al1 (pc := 375) rfl rfl ?_
  refine x_k (pc := 376) rfl rfl rfl ⟨Nat.le_of_ble_eq_true rfl, Nat.le_of_ble_eq_true rfl, Nat.le_of_ble_eq_true rfl⟩ rfl (mq_mono (fun o ho => ?_) (op_fetched h hn hu _ _))
  obtain ⟨cd, n1, u1, I1, A1, J1, B1, mk1, sn1, X1, e, hcd, hn1, hn2, hu1, hm⟩ := ho
  subst e
  show mq 161 379 [some (.ref 0), some (.ref 1), some (.ref 67), some (.ref 76), some (.int (nI i)), l5, l6] [.int (nI cd)] (hS n1 u1 I1 A1 J1 B1 mk1 sn1 L xs X1) Q
  refine x_is2 (pc := 379) (ml' := [some (.ref 0), some (.ref 1), some (.ref 67), some (.ref 76), some (.int (nI i)), some (.int (nI cd)), l6]) rfl rfl ?_
  refine x_al1 (pc := 381) rfl rfl ?_
  refine q_scr (pc := 382) (c := 1) rfl rfl rfl rfl rfl (by decide) rfl rfl (by omega) hL ?_
  refine q_scr (pc := 388) (c := 2) rfl rfl rfl rfl rfl (by decide) rfl rfl (by omega) hL ?_
  refine x_k (pc := 394) rfl rfl rfl ⟨Nat.le_of_ble_eq_true rfl, Nat.le_of_ble_eq_true rfl, Nat.le_of_ble_eq_true rfl⟩ rfl (mq_mono (fun o2 ho2 => ?_) hm)
  obtain ⟨b, S2, I2, A2, e2, e60, eb, hI⟩ := ho2
  subst e2
  show mq 161 397 [some (.ref 0), some (.ref 1), some (.ref 67), some (.ref 76), some (.int (nI i)), some (.int (nI cd)), l6] [.int b] (hS n1 u1 I2 A2 J1 B1 mk1 sn1 L xs X1) Q
  refine x_is2 (pc := 397) (ml' := [some (.ref 0), some (.ref 1), some (.ref 67), some (.ref 76), some (.int (nI i)), some (.int (nI cd)), some (.int b)]) rfl rfl ?_
  refine x_al1 (pc := 399) rfl rfl ?_
  refine x_k (pc := 400) rfl rfl rfl ⟨Nat.le_of_ble_eq_true rfl, Nat.le_of_ble_eq_true rfl, Nat.le_of_ble_eq_true rfl⟩ rfl (k_109 e60 ?_)
  show mq 161 403 [some (.ref 0), some (.ref 1), some (.ref 67), some (.ref 76), some (.int (nI i)), some (.int (nI cd)), some (.int b)] [.int (nI cd)] (hS n1 u1 I2 A2 J1 B1 mk1 sn1 L xs X1) Q
  refine x_il2 (pc := 403) rfl rfl ?_
  refine x_cmp_eq (pc := 405) (t := 410) rfl rfl rfl (fun _ => ?_) (fun q => absurd rfl q)
  have hg : mq 161 427 [some (.ref 0), some (.ref 1), some (.ref 67), some (.ref 76), some (.int (nI i)), some (.int (nI cd)), some (.int b)] [] (hS n1 u1 I2 A2 J1 B1 mk1 sn1 L xs X1) Q := x_step (pc := 427) (pc' := 948) rfl rfl rfl rfl (kk _ _ _ _ _ _ _ _ _ S2 _ _ hI hn1 hn2 hu1)
  refine x_il2 (pc := 410) rfl rfl ?_
  refine x_ifN_ne (pc := 412) (t := 427) rfl rfl (by omega) (fun _ => hg) (fun e0 => ?_)
  refine x_al1 (pc := 415) rfl rfl ?_
  refine x_const (pc := 416) (pc' := 417) (.int (nI 0)) rfl rfl rfl rfl ?_
  refine x_laldB (pc := 417) rfl rfl ?_
  refine x_il2 (pc := 418) rfl rfl ?_
  refine x_i2l (pc := 420) rfl rfl ?_
  refine x_step (pc := 421) (pc' := 422) (st' := [.int (lg_cmp (B1 0) b.toInt64)]) rfl rfl rfl rfl ?_
  rw [eb e0, lg_self]
  exact x_if_eq (pc := 422) (t := 427) rfl rfl rfl (fun _ => hg) (fun q => absurd rfl q)
set_option maxRecDepth 100000 in
set_option maxHeartbeats 4000000 in
theorem la_5 {i : Nat} (h : INV k S I A mk sn) (hk : k ≤ 1000) (hn : 77 ≤ n ∧ n < 10000) (hu : u + 6 < 1000000) (hi : i + 4 ≤ L) (hL : L ≤ 2048) {l5 l6 : Option Value} {Q : mO × mHp → Prop} (kk : ∀ n' u' I' A' J' B' mk' sn' X' S' l5' l6', INV (k + 1) S' I' A' mk' sn' → n ≤ n' → n' ≤ n + 1 → u' ≤ u + 6 → mq 161 948 [some (.ref 0), some (.ref 1), some (.ref 67), some (.ref 76), some (.int (nI i)), l5', l6'] [] (hS n' u' I' A' J' B' mk' sn' L xs X') Q) : mq 161 430 [some (.ref 0), some (.ref 1), some (.ref 67), some (.ref 76), some (.int (nI i)), l5, l6] [] (hS n u I A J B mk sn L xs X) Q := by
  refine x_al1 (pc := 430) rfl rfl ?_
  refine q_scr (pc := 431) (c := 1) rfl rfl rfl rfl rfl (by decide) rfl rfl (by omega) hL ?_
  refine q_scr (pc := 437) (c := 2) rfl rfl rfl rfl rfl (by decide) rfl rfl (by omega) hL ?_
  refine x_al1 (pc := 443) rfl rfl ?_
  refine x_k (pc := 444) rfl rfl rfl ⟨Nat.le_of_ble_eq_true rfl, Nat.le_of_ble_eq_true rfl, Nat.le_of_ble_eq_true rfl⟩ rfl (mq_mono (fun o ho => ?_) (op_since h hk hn hu _ _))
  obtain ⟨cd, n1, u1, I1, A1, J1, B1, mk1, sn1, X1, e, hcd, hn1, hn2, hu1, hm⟩ := ho
  subst e
  show mq 161 447 [some (.ref 0), some (.ref 1), some (.ref 67), some (.ref 76), some (.int (nI i)), l5, l6] [.int (nI cd)] (hS n1 u1 I1 A1 J1 B1 mk1 sn1 L xs X1) Q
  refine x_is2 (pc := 447) (ml' := [some (.ref 0), some (.ref 1), some (.ref 67), some (.ref 76), some (.int (nI i)), some (.int (nI cd)), l6]) rfl rfl ?_
  refine x_al1 (pc := 449) rfl rfl ?_
  refine q_scr (pc := 450) (c := 1) rfl rfl rfl rfl rfl (by decide) rfl rfl (by omega) hL ?_
  refine q_scr (pc := 456) (c := 2) rfl rfl rfl rfl rfl (by decide) rfl rfl (by omega) hL ?_
  refine x_k (pc := 462) rfl rfl rfl ⟨Nat.le_of_ble_eq_true rfl, Nat.le_of_ble_eq_true rfl, Nat.le_of_ble_eq_true rfl⟩ rfl (mq_mono (fun o2 ho2 => ?_) hm)
  obtain ⟨b, S2, I2, A2, e2, e60, eb, hI⟩ := ho2
  subst e2
  show mq 161 465 [some (.ref 0), some (.ref 1), some (.ref 67), some (.ref 76), some (.int (nI i)), some (.int (nI cd)), l6] [.int b] (hS n1 u1 I2 A2 J1 B1 mk1 sn1 L xs X1) Q
  refine x_is2 (pc := 465) (ml' := [some (.ref 0), some (.ref 1), some (.ref 67), some (.ref 76), some (.int (nI i)), some (.int (nI cd)), some (.int b)]) rfl rfl ?_
  refine x_al1 (pc := 467) rfl rfl ?_
  refine x_k (pc := 468) rfl rfl rfl ⟨Nat.le_of_ble_eq_true rfl, Nat.le_of_ble_eq_true rfl, Nat.le_of_ble_eq_true rfl⟩ rfl (k_109 e60 ?_)
  show mq 161 471 [some (.ref 0), some (.ref 1), some (.ref 67), some (.ref 76), some (.int (nI i)), some (.int (nI cd)), some (.int b)] [.int (nI cd)] (hS n1 u1 I2 A2 J1 B1 mk1 sn1 L xs X1) Q
  refine x_il2 (pc := 471) rfl rfl ?_
  refine x_cmp_eq (pc := 473) (t := 478) rfl rfl rfl (fun _ => ?_) (fun q => absurd rfl q)
  have hg : mq 161 495 [some (.ref 0), some (.ref 1), some (.ref 67), some (.ref 76), some (.int (nI i)), some (.int (nI cd)), some (.int b)] [] (hS n1 u1 I2 A2 J1 B1 mk1 sn1 L xs X1) Q := x_step (pc := 495) (pc' := 948) rfl rfl rfl rfl (kk _ _ _ _ _ _ _ _ _ S2 _ _ hI hn1 hn2 hu1)
  refine x_il2 (pc := 478) rfl rfl ?_
  refine x_ifN_ne (pc := 480) (t := 495) rfl rfl (by omega) (fun _ => hg) (fun e0 => ?_)
  refine x_al1 (pc := 483) rfl rfl ?_
  refine x_const (pc := 484) (pc' := 485) (.int (nI 0)) rfl rfl rfl rfl ?_
  refine x_laldB (pc := 485) rfl rfl ?_
  refine x_il2 (pc := 486) rfl rfl ?_
  refine x_i2l (pc := 488) rfl rfl ?_
  refine x_step (pc := 489) (pc' := 490) (st' := [.int (lg_cmp (B1 0) b.toInt64)]) rfl rfl rfl rfl ?_
  rw [eb e0, lg_self]
  exact x_if_eq (pc := 490) (t := 495) rfl rfl rfl (fun _ => hg) (fun q => absurd rfl q)
set_option maxRecDepth 100000 in
set_option maxHeartbeats 4000000 in
theorem la_6 {i : Nat} (h : INV k S I A mk sn) (hk : k ≤ 1000) (hn : 77 ≤ n ∧ n < 10000) (hu : u + 6 < 1000000) (hi : i + 4 ≤ L) (hL : L ≤ 2048) {l5 l6 : Option Value} {Q : mO × mHp → Prop} (kk : ∀ n' u' I' A' J' B' mk' sn' X' S' l5' l6', INV (k + 1) S' I' A' mk' sn' → n ≤ n' → n' ≤ n + 1 → u' ≤ u + 6 → mq 161 948 [some (.ref 0), some (.ref 1), some (.ref 67), some (.ref 76), some (.int (nI i)), l5', l6'] [] (hS n' u' I' A' J' B' mk' sn' L xs X') Q) : mq 161 498 [some (.ref 0), some (.ref 1), some (.ref 67), some (.ref 76), some (.int (nI i)), l5, l6] [] (hS n u I A J B mk sn L xs X) Q := by
  refine x_al1 (pc := 498) rfl rfl ?_
  refine q_scr (pc := 499) (c := 1) rfl rfl rfl rfl rfl (by decide) rfl rfl (by omega) hL ?_
  refine q_scr (pc := 505) (c := 2) rfl rfl rfl rfl rfl (by decide) rfl rfl (by omega) hL ?_
  refine q_scr (pc := 511) (c := 3) rfl rfl rfl rfl rfl (by decide) rfl rfl (by omega) hL ?_
  refine x_k (pc := 517) rfl rfl rfl ⟨Nat.le_of_ble_eq_true rfl, Nat.le_of_ble_eq_true rfl, Nat.le_of_ble_eq_true rfl⟩ rfl (mq_mono (fun o ho => ?_) (op_commit h hk hn hu _ _ _))
  obtain ⟨cd, n1, u1, I1, A1, J1, B1, mk1, sn1, X1, e, hcd, hn1, hn2, hu1, hm⟩ := ho
  subst e
  show mq 161 520 [some (.ref 0), some (.ref 1), some (.ref 67), some (.ref 76), some (.int (nI i)), l5, l6] [.int (nI cd)] (hS n1 u1 I1 A1 J1 B1 mk1 sn1 L xs X1) Q
  refine x_is2 (pc := 520) (ml' := [some (.ref 0), some (.ref 1), some (.ref 67), some (.ref 76), some (.int (nI i)), some (.int (nI cd)), l6]) rfl rfl ?_
  refine x_al1 (pc := 522) rfl rfl ?_
  refine q_scr (pc := 523) (c := 1) rfl rfl rfl rfl rfl (by decide) rfl rfl (by omega) hL ?_
  refine q_scr (pc := 529) (c := 2) rfl rfl rfl rfl rfl (by decide) rfl rfl (by omega) hL ?_
  refine q_scr (pc := 535) (c := 3) rfl rfl rfl rfl rfl (by decide) rfl rfl (by omega) hL ?_
  refine x_k (pc := 541) rfl rfl rfl ⟨Nat.le_of_ble_eq_true rfl, Nat.le_of_ble_eq_true rfl, Nat.le_of_ble_eq_true rfl⟩ rfl (mq_mono (fun o2 ho2 => ?_) hm)
  obtain ⟨S2, I2, A2, e2, e60, hI⟩ := ho2
  subst e2
  show mq 161 544 [some (.ref 0), some (.ref 1), some (.ref 67), some (.ref 76), some (.int (nI i)), some (.int (nI cd)), l6] [] (hS n1 u1 I2 A2 J1 B1 mk1 sn1 L xs X1) Q
  refine x_al1 (pc := 544) rfl rfl ?_
  refine x_k (pc := 545) rfl rfl rfl ⟨Nat.le_of_ble_eq_true rfl, Nat.le_of_ble_eq_true rfl, Nat.le_of_ble_eq_true rfl⟩ rfl (k_109 e60 ?_)
  show mq 161 548 [some (.ref 0), some (.ref 1), some (.ref 67), some (.ref 76), some (.int (nI i)), some (.int (nI cd)), l6] [.int (nI cd)] (hS n1 u1 I2 A2 J1 B1 mk1 sn1 L xs X1) Q
  refine x_il2 (pc := 548) rfl rfl ?_
  refine x_cmp_eq (pc := 550) (t := 555) rfl rfl rfl (fun _ => ?_) (fun q => absurd rfl q)
  exact x_step (pc := 555) (pc' := 948) rfl rfl rfl rfl (kk _ _ _ _ _ _ _ _ _ S2 _ _ hI hn1 hn2 hu1)
set_option maxRecDepth 100000 in
set_option maxHeartbeats 4000000 in
theorem la_7 {i : Nat} (h : INV k S I A mk sn) (hk : k ≤ 1000) (hn : 77 ≤ n ∧ n < 10000) (hu : u + 6 < 1000000) (hi : i + 4 ≤ L) (hL : L ≤ 2048) {l5 l6 : Option Value} {Q : mO × mHp → Prop} (kk : ∀ n' u' I' A' J' B' mk' sn' X' S' l5' l6', INV (k + 1) S' I' A' mk' sn' → n ≤ n' → n' ≤ n + 1 → u' ≤ u + 6 → mq 161 948 [some (.ref 0), some (.ref 1), some (.ref 67), some (.ref 76), some (.int (nI i)), l5', l6'] [] (hS n' u' I' A' J' B' mk' sn' L xs X') Q) : mq 161 558 [some (.ref 0), some (.ref 1), some (.ref 67), some (.ref 76), some (.int (nI i)), l5, l6] [] (hS n u I A J B mk sn L xs X) Q := by
  refine x_al1 (pc := 558) rfl rfl ?_
  refine q_scr (pc := 559) (c := 1) rfl rfl rfl rfl rfl (by decide) rfl rfl (by omega) hL ?_
  refine q_scr (pc := 565) (c := 2) rfl rfl rfl rfl rfl (by decide) rfl rfl (by omega) hL ?_
  refine x_al1 (pc := 571) rfl rfl ?_
  refine x_k (pc := 572) rfl rfl rfl ⟨Nat.le_of_ble_eq_true rfl, Nat.le_of_ble_eq_true rfl, Nat.le_of_ble_eq_true rfl⟩ rfl (mq_mono (fun o ho => ?_) (op_committed h hn hu _ _))
  obtain ⟨cd, n1, u1, I1, A1, J1, B1, mk1, sn1, X1, e, hcd, hn1, hn2, hu1, hm⟩ := ho
  subst e
  show mq 161 575 [some (.ref 0), some (.ref 1), some (.ref 67), some (.ref 76), some (.int (nI i)), l5, l6] [.int (nI cd)] (hS n1 u1 I1 A1 J1 B1 mk1 sn1 L xs X1) Q
  refine x_is2 (pc := 575) (ml' := [some (.ref 0), some (.ref 1), some (.ref 67), some (.ref 76), some (.int (nI i)), some (.int (nI cd)), l6]) rfl rfl ?_
  refine x_al1 (pc := 577) rfl rfl ?_
  refine q_scr (pc := 578) (c := 1) rfl rfl rfl rfl rfl (by decide) rfl rfl (by omega) hL ?_
  refine q_scr (pc := 584) (c := 2) rfl rfl rfl rfl rfl (by decide) rfl rfl (by omega) hL ?_
  refine x_k (pc := 590) rfl rfl rfl ⟨Nat.le_of_ble_eq_true rfl, Nat.le_of_ble_eq_true rfl, Nat.le_of_ble_eq_true rfl⟩ rfl (mq_mono (fun o2 ho2 => ?_) hm)
  obtain ⟨b, S2, I2, A2, e2, e60, eb, hI⟩ := ho2
  subst e2
  show mq 161 593 [some (.ref 0), some (.ref 1), some (.ref 67), some (.ref 76), some (.int (nI i)), some (.int (nI cd)), l6] [.int b] (hS n1 u1 I2 A2 J1 B1 mk1 sn1 L xs X1) Q
  refine x_is2 (pc := 593) (ml' := [some (.ref 0), some (.ref 1), some (.ref 67), some (.ref 76), some (.int (nI i)), some (.int (nI cd)), some (.int b)]) rfl rfl ?_
  refine x_al1 (pc := 595) rfl rfl ?_
  refine x_k (pc := 596) rfl rfl rfl ⟨Nat.le_of_ble_eq_true rfl, Nat.le_of_ble_eq_true rfl, Nat.le_of_ble_eq_true rfl⟩ rfl (k_109 e60 ?_)
  show mq 161 599 [some (.ref 0), some (.ref 1), some (.ref 67), some (.ref 76), some (.int (nI i)), some (.int (nI cd)), some (.int b)] [.int (nI cd)] (hS n1 u1 I2 A2 J1 B1 mk1 sn1 L xs X1) Q
  refine x_il2 (pc := 599) rfl rfl ?_
  refine x_cmp_eq (pc := 601) (t := 606) rfl rfl rfl (fun _ => ?_) (fun q => absurd rfl q)
  have hg : mq 161 623 [some (.ref 0), some (.ref 1), some (.ref 67), some (.ref 76), some (.int (nI i)), some (.int (nI cd)), some (.int b)] [] (hS n1 u1 I2 A2 J1 B1 mk1 sn1 L xs X1) Q := x_step (pc := 623) (pc' := 948) rfl rfl rfl rfl (kk _ _ _ _ _ _ _ _ _ S2 _ _ hI hn1 hn2 hu1)
  refine x_il2 (pc := 606) rfl rfl ?_
  refine x_ifN_ne (pc := 608) (t := 623) rfl rfl (by omega) (fun _ => hg) (fun e0 => ?_)
  refine x_al1 (pc := 611) rfl rfl ?_
  refine x_const (pc := 612) (pc' := 613) (.int (nI 0)) rfl rfl rfl rfl ?_
  refine x_laldB (pc := 613) rfl rfl ?_
  refine x_il2 (pc := 614) rfl rfl ?_
  refine x_i2l (pc := 616) rfl rfl ?_
  refine x_step (pc := 617) (pc' := 618) (st' := [.int (lg_cmp (B1 0) b.toInt64)]) rfl rfl rfl rfl ?_
  rw [eb e0, lg_self]
  exact x_if_eq (pc := 618) (t := 623) rfl rfl rfl (fun _ => hg) (fun q => absurd rfl q)
set_option maxRecDepth 100000 in
set_option maxHeartbeats 4000000 in
theorem la_8 {i : Nat} (h : INV k S I A mk sn) (hk : k ≤ 1000) (hn : 77 ≤ n ∧ n < 10000) (hu : u + 6 < 1000000) (hi : i + 4 ≤ L) (hL : L ≤ 2048) {l5 l6 : Option Value} {Q : mO × mHp → Prop} (kk : ∀ n' u' I' A' J' B' mk' sn' X' S' l5' l6', INV (k + 1) S' I' A' mk' sn' → n ≤ n' → n' ≤ n + 1 → u' ≤ u + 6 → mq 161 948 [some (.ref 0), some (.ref 1), some (.ref 67), some (.ref 76), some (.int (nI i)), l5', l6'] [] (hS n' u' I' A' J' B' mk' sn' L xs X') Q) : mq 161 626 [some (.ref 0), some (.ref 1), some (.ref 67), some (.ref 76), some (.int (nI i)), l5, l6] [] (hS n u I A J B mk sn L xs X) Q := by
  refine x_al1 (pc := 626) rfl rfl ?_
  refine q_scr (pc := 627) (c := 1) rfl rfl rfl rfl rfl (by decide) rfl rfl (by omega) hL ?_
  refine q_scr (pc := 633) (c := 2) rfl rfl rfl rfl rfl (by decide) rfl rfl (by omega) hL ?_
  refine x_al1 (pc := 639) rfl rfl ?_
  refine x_k (pc := 640) rfl rfl rfl ⟨Nat.le_of_ble_eq_true rfl, Nat.le_of_ble_eq_true rfl, Nat.le_of_ble_eq_true rfl⟩ rfl (mq_mono (fun o ho => ?_) (op_clean h hk hn hu _ _))
  obtain ⟨cd, n1, u1, I1, A1, J1, B1, mk1, sn1, X1, e, hcd, hn1, hn2, hu1, hm⟩ := ho
  subst e
  show mq 161 643 [some (.ref 0), some (.ref 1), some (.ref 67), some (.ref 76), some (.int (nI i)), l5, l6] [.int (nI cd)] (hS n1 u1 I1 A1 J1 B1 mk1 sn1 L xs X1) Q
  refine x_is2 (pc := 643) (ml' := [some (.ref 0), some (.ref 1), some (.ref 67), some (.ref 76), some (.int (nI i)), some (.int (nI cd)), l6]) rfl rfl ?_
  refine x_al1 (pc := 645) rfl rfl ?_
  refine q_scr (pc := 646) (c := 1) rfl rfl rfl rfl rfl (by decide) rfl rfl (by omega) hL ?_
  refine q_scr (pc := 652) (c := 2) rfl rfl rfl rfl rfl (by decide) rfl rfl (by omega) hL ?_
  refine x_k (pc := 658) rfl rfl rfl ⟨Nat.le_of_ble_eq_true rfl, Nat.le_of_ble_eq_true rfl, Nat.le_of_ble_eq_true rfl⟩ rfl (mq_mono (fun o2 ho2 => ?_) hm)
  obtain ⟨b, S2, I2, A2, e2, e60, eb, hI⟩ := ho2
  subst e2
  show mq 161 661 [some (.ref 0), some (.ref 1), some (.ref 67), some (.ref 76), some (.int (nI i)), some (.int (nI cd)), l6] [.int b] (hS n1 u1 I2 A2 J1 B1 mk1 sn1 L xs X1) Q
  refine x_is2 (pc := 661) (ml' := [some (.ref 0), some (.ref 1), some (.ref 67), some (.ref 76), some (.int (nI i)), some (.int (nI cd)), some (.int b)]) rfl rfl ?_
  refine x_al1 (pc := 663) rfl rfl ?_
  refine x_k (pc := 664) rfl rfl rfl ⟨Nat.le_of_ble_eq_true rfl, Nat.le_of_ble_eq_true rfl, Nat.le_of_ble_eq_true rfl⟩ rfl (k_109 e60 ?_)
  show mq 161 667 [some (.ref 0), some (.ref 1), some (.ref 67), some (.ref 76), some (.int (nI i)), some (.int (nI cd)), some (.int b)] [.int (nI cd)] (hS n1 u1 I2 A2 J1 B1 mk1 sn1 L xs X1) Q
  refine x_il2 (pc := 667) rfl rfl ?_
  refine x_cmp_eq (pc := 669) (t := 674) rfl rfl rfl (fun _ => ?_) (fun q => absurd rfl q)
  have hg : mq 161 691 [some (.ref 0), some (.ref 1), some (.ref 67), some (.ref 76), some (.int (nI i)), some (.int (nI cd)), some (.int b)] [] (hS n1 u1 I2 A2 J1 B1 mk1 sn1 L xs X1) Q := x_step (pc := 691) (pc' := 948) rfl rfl rfl rfl (kk _ _ _ _ _ _ _ _ _ S2 _ _ hI hn1 hn2 hu1)
  refine x_il2 (pc := 674) rfl rfl ?_
  refine x_ifN_ne (pc := 676) (t := 691) rfl rfl (by omega) (fun _ => hg) (fun e0 => ?_)
  refine x_al1 (pc := 679) rfl rfl ?_
  refine x_const (pc := 680) (pc' := 681) (.int (nI 0)) rfl rfl rfl rfl ?_
  refine x_laldB (pc := 681) rfl rfl ?_
  refine x_il2 (pc := 682) rfl rfl ?_
  refine x_i2l (pc := 684) rfl rfl ?_
  refine x_step (pc := 685) (pc' := 686) (st' := [.int (lg_cmp (B1 0) b.toInt64)]) rfl rfl rfl rfl ?_
  rw [eb e0, lg_self]
  exact x_if_eq (pc := 686) (t := 691) rfl rfl rfl (fun _ => hg) (fun q => absurd rfl q)
set_option maxRecDepth 100000 in
set_option maxHeartbeats 4000000 in
theorem la_9 {i : Nat} (h : INV k S I A mk sn) (hk : k ≤ 1000) (hn : 77 ≤ n ∧ n < 10000) (hu : u + 6 < 1000000) (hi : i + 4 ≤ L) (hL : L ≤ 2048) {l5 l6 : Option Value} {Q : mO × mHp → Prop} (kk : ∀ n' u' I' A' J' B' mk' sn' X' S' l5' l6', INV (k + 1) S' I' A' mk' sn' → n ≤ n' → n' ≤ n + 1 → u' ≤ u + 6 → mq 161 948 [some (.ref 0), some (.ref 1), some (.ref 67), some (.ref 76), some (.int (nI i)), l5', l6'] [] (hS n' u' I' A' J' B' mk' sn' L xs X') Q) : mq 161 694 [some (.ref 0), some (.ref 1), some (.ref 67), some (.ref 76), some (.int (nI i)), l5, l6] [] (hS n u I A J B mk sn L xs X) Q := by
  refine x_al1 (pc := 694) rfl rfl ?_
  refine q_scr (pc := 695) (c := 1) rfl rfl rfl rfl rfl (by decide) rfl rfl (by omega) hL ?_
  refine q_scr (pc := 701) (c := 2) rfl rfl rfl rfl rfl (by decide) rfl rfl (by omega) hL ?_
  refine x_al1 (pc := 707) rfl rfl ?_
  refine x_k (pc := 708) rfl rfl rfl ⟨Nat.le_of_ble_eq_true rfl, Nat.le_of_ble_eq_true rfl, Nat.le_of_ble_eq_true rfl⟩ rfl (mq_mono (fun o ho => ?_) (op_retain h hn hu _ _))
  obtain ⟨cd, n1, u1, I1, A1, J1, B1, mk1, sn1, X1, e, hcd, hn1, hn2, hu1, hm⟩ := ho
  subst e
  show mq 161 711 [some (.ref 0), some (.ref 1), some (.ref 67), some (.ref 76), some (.int (nI i)), l5, l6] [.int (nI cd)] (hS n1 u1 I1 A1 J1 B1 mk1 sn1 L xs X1) Q
  refine x_is2 (pc := 711) (ml' := [some (.ref 0), some (.ref 1), some (.ref 67), some (.ref 76), some (.int (nI i)), some (.int (nI cd)), l6]) rfl rfl ?_
  refine x_al1 (pc := 713) rfl rfl ?_
  refine q_scr (pc := 714) (c := 1) rfl rfl rfl rfl rfl (by decide) rfl rfl (by omega) hL ?_
  refine q_scr (pc := 720) (c := 2) rfl rfl rfl rfl rfl (by decide) rfl rfl (by omega) hL ?_
  refine x_k (pc := 726) rfl rfl rfl ⟨Nat.le_of_ble_eq_true rfl, Nat.le_of_ble_eq_true rfl, Nat.le_of_ble_eq_true rfl⟩ rfl (mq_mono (fun o2 ho2 => ?_) hm)
  obtain ⟨b, S2, I2, A2, e2, e60, eb, hI⟩ := ho2
  subst e2
  show mq 161 729 [some (.ref 0), some (.ref 1), some (.ref 67), some (.ref 76), some (.int (nI i)), some (.int (nI cd)), l6] [.int b] (hS n1 u1 I2 A2 J1 B1 mk1 sn1 L xs X1) Q
  refine x_is2 (pc := 729) (ml' := [some (.ref 0), some (.ref 1), some (.ref 67), some (.ref 76), some (.int (nI i)), some (.int (nI cd)), some (.int b)]) rfl rfl ?_
  refine x_al1 (pc := 731) rfl rfl ?_
  refine x_k (pc := 732) rfl rfl rfl ⟨Nat.le_of_ble_eq_true rfl, Nat.le_of_ble_eq_true rfl, Nat.le_of_ble_eq_true rfl⟩ rfl (k_109 e60 ?_)
  show mq 161 735 [some (.ref 0), some (.ref 1), some (.ref 67), some (.ref 76), some (.int (nI i)), some (.int (nI cd)), some (.int b)] [.int (nI cd)] (hS n1 u1 I2 A2 J1 B1 mk1 sn1 L xs X1) Q
  refine x_il2 (pc := 735) rfl rfl ?_
  refine x_cmp_eq (pc := 737) (t := 742) rfl rfl rfl (fun _ => ?_) (fun q => absurd rfl q)
  have hg : mq 161 759 [some (.ref 0), some (.ref 1), some (.ref 67), some (.ref 76), some (.int (nI i)), some (.int (nI cd)), some (.int b)] [] (hS n1 u1 I2 A2 J1 B1 mk1 sn1 L xs X1) Q := x_step (pc := 759) (pc' := 948) rfl rfl rfl rfl (kk _ _ _ _ _ _ _ _ _ S2 _ _ hI hn1 hn2 hu1)
  refine x_il2 (pc := 742) rfl rfl ?_
  refine x_ifN_ne (pc := 744) (t := 759) rfl rfl (by omega) (fun _ => hg) (fun e0 => ?_)
  refine x_al1 (pc := 747) rfl rfl ?_
  refine x_const (pc := 748) (pc' := 749) (.int (nI 0)) rfl rfl rfl rfl ?_
  refine x_laldB (pc := 749) rfl rfl ?_
  refine x_il2 (pc := 750) rfl rfl ?_
  refine x_i2l (pc := 752) rfl rfl ?_
  refine x_step (pc := 753) (pc' := 754) (st' := [.int (lg_cmp (B1 0) b.toInt64)]) rfl rfl rfl rfl ?_
  rw [eb e0, lg_self]
  exact x_if_eq (pc := 754) (t := 759) rfl rfl rfl (fun _ => hg) (fun q => absurd rfl q)
set_option maxRecDepth 100000 in
set_option maxHeartbeats 4000000 in
theorem la_10 {i : Nat} (h : INV k S I A mk sn) (hk : k ≤ 1000) (hn : 77 ≤ n ∧ n < 10000) (hu : u + 6 < 1000000) (hi : i + 4 ≤ L) (hL : L ≤ 2048) {l5 l6 : Option Value} {Q : mO × mHp → Prop} (kk : ∀ n' u' I' A' J' B' mk' sn' X' S' l5' l6', INV (k + 1) S' I' A' mk' sn' → n ≤ n' → n' ≤ n + 1 → u' ≤ u + 6 → mq 161 948 [some (.ref 0), some (.ref 1), some (.ref 67), some (.ref 76), some (.int (nI i)), l5', l6'] [] (hS n' u' I' A' J' B' mk' sn' L xs X') Q) : mq 161 762 [some (.ref 0), some (.ref 1), some (.ref 67), some (.ref 76), some (.int (nI i)), l5, l6] [] (hS n u I A J B mk sn L xs X) Q := by
  refine x_al1 (pc := 762) rfl rfl ?_
  refine q_scr (pc := 763) (c := 1) rfl rfl rfl rfl rfl (by decide) rfl rfl (by omega) hL ?_
  refine x_k (pc := 769) rfl rfl rfl ⟨Nat.le_of_ble_eq_true rfl, Nat.le_of_ble_eq_true rfl, Nat.le_of_ble_eq_true rfl⟩ rfl (mq_mono (fun o ho => ?_) (op_cut h _))
  obtain ⟨v, I1, A1, mk1, sn1, e, hm⟩ := ho
  subst e
  show mq 161 772 [some (.ref 0), some (.ref 1), some (.ref 67), some (.ref 76), some (.int (nI i)), l5, l6] [.int v] (hS n u I1 A1 J B mk1 sn1 L xs X) Q
  refine x_al1 (pc := 772) rfl rfl ?_
  refine q_scr (pc := 773) (c := 1) rfl rfl rfl rfl rfl (by decide) rfl rfl (by omega) hL ?_
  refine x_k (pc := 779) rfl rfl rfl ⟨Nat.le_of_ble_eq_true rfl, Nat.le_of_ble_eq_true rfl, Nat.le_of_ble_eq_true rfl⟩ rfl (mq_mono (fun o2 ho2 => ?_) hm)
  obtain ⟨S2, I2, A2, e2, hI⟩ := ho2
  subst e2
  show mq 161 782 [some (.ref 0), some (.ref 1), some (.ref 67), some (.ref 76), some (.int (nI i)), l5, l6] [.int v, .int v] (hS n u I2 A2 J B mk1 sn1 L xs X) Q
  exact x_cmp_eq (pc := 782) (t := 948) rfl rfl rfl (fun _ => kk n u I2 A2 J B mk1 sn1 X S2 l5 l6 hI (Nat.le_refl _) (Nat.le_succ _) (Nat.le_add_right _ _)) (fun q => absurd rfl q)
set_option maxRecDepth 100000 in
set_option maxHeartbeats 4000000 in
theorem la_11 {i : Nat} (h : INV k S I A mk sn) (hk : k ≤ 1000) (hn : 77 ≤ n ∧ n < 10000) (hu : u + 6 < 1000000) (hi : i + 4 ≤ L) (hL : L ≤ 2048) {l5 l6 : Option Value} {Q : mO × mHp → Prop} (kk : ∀ n' u' I' A' J' B' mk' sn' X' S' l5' l6', INV (k + 1) S' I' A' mk' sn' → n ≤ n' → n' ≤ n + 1 → u' ≤ u + 6 → mq 161 948 [some (.ref 0), some (.ref 1), some (.ref 67), some (.ref 76), some (.int (nI i)), l5', l6'] [] (hS n' u' I' A' J' B' mk' sn' L xs X') Q) : mq 161 787 [some (.ref 0), some (.ref 1), some (.ref 67), some (.ref 76), some (.int (nI i)), l5, l6] [] (hS n u I A J B mk sn L xs X) Q := by
  refine x_al1 (pc := 787) rfl rfl ?_
  refine x_k (pc := 788) rfl rfl rfl ⟨Nat.le_of_ble_eq_true rfl, Nat.le_of_ble_eq_true rfl, Nat.le_of_ble_eq_true rfl⟩ rfl (mq_mono (fun o ho => ?_) (op_recover h hk hn hu))
  obtain ⟨v, I1, A1, mk1, sn1, e, hm⟩ := ho
  subst e
  show mq 161 791 [some (.ref 0), some (.ref 1), some (.ref 67), some (.ref 76), some (.int (nI i)), l5, l6] [.int v] (hS n u I1 A1 J B mk1 sn1 L xs X) Q
  refine x_al1 (pc := 791) rfl rfl ?_
  refine x_k (pc := 792) rfl rfl rfl ⟨Nat.le_of_ble_eq_true rfl, Nat.le_of_ble_eq_true rfl, Nat.le_of_ble_eq_true rfl⟩ rfl (mq_mono (fun o2 ho2 => ?_) hm)
  obtain ⟨S2, I2, A2, e2, hI⟩ := ho2
  subst e2
  show mq 161 795 [some (.ref 0), some (.ref 1), some (.ref 67), some (.ref 76), some (.int (nI i)), l5, l6] [.int v, .int v] (hS n u I2 A2 J B mk1 sn1 L xs X) Q
  exact x_cmp_eq (pc := 795) (t := 948) rfl rfl rfl (fun _ => kk n u I2 A2 J B mk1 sn1 X S2 l5 l6 hI (Nat.le_refl _) (Nat.le_succ _) (Nat.le_add_right _ _)) (fun q => absurd rfl q)
set_option maxRecDepth 100000 in
set_option maxHeartbeats 4000000 in
theorem la_12 {i : Nat} (h : INV k S I A mk sn) (hk : k ≤ 1000) (hn : 77 ≤ n ∧ n < 10000) (hu : u + 6 < 1000000) (hi : i + 4 ≤ L) (hL : L ≤ 2048) {l5 l6 : Option Value} {Q : mO × mHp → Prop} (kk : ∀ n' u' I' A' J' B' mk' sn' X' S' l5' l6', INV (k + 1) S' I' A' mk' sn' → n ≤ n' → n' ≤ n + 1 → u' ≤ u + 6 → mq 161 948 [some (.ref 0), some (.ref 1), some (.ref 67), some (.ref 76), some (.int (nI i)), l5', l6'] [] (hS n' u' I' A' J' B' mk' sn' L xs X') Q) : mq 161 800 [some (.ref 0), some (.ref 1), some (.ref 67), some (.ref 76), some (.int (nI i)), l5, l6] [] (hS n u I A J B mk sn L xs X) Q := by
  refine x_al1 (pc := 800) rfl rfl ?_
  refine q_scr (pc := 801) (c := 1) rfl rfl rfl rfl rfl (by decide) rfl rfl (by omega) hL ?_
  refine q_scr (pc := 807) (c := 2) rfl rfl rfl rfl rfl (by decide) rfl rfl (by omega) hL ?_
  refine x_k (pc := 813) rfl rfl rfl ⟨Nat.le_of_ble_eq_true rfl, Nat.le_of_ble_eq_true rfl, Nat.le_of_ble_eq_true rfl⟩ rfl (mq_mono (fun o ho => ?_) (op_log h _ _))
  obtain ⟨v, I1, A1, mk1, sn1, e, hm⟩ := ho
  subst e
  show mq 161 816 [some (.ref 0), some (.ref 1), some (.ref 67), some (.ref 76), some (.int (nI i)), l5, l6] [.int v] (hS n u I1 A1 J B mk1 sn1 L xs X) Q
  refine x_al1 (pc := 816) rfl rfl ?_
  refine q_scr (pc := 817) (c := 1) rfl rfl rfl rfl rfl (by decide) rfl rfl (by omega) hL ?_
  refine q_scr (pc := 823) (c := 2) rfl rfl rfl rfl rfl (by decide) rfl rfl (by omega) hL ?_
  refine x_k (pc := 829) rfl rfl rfl ⟨Nat.le_of_ble_eq_true rfl, Nat.le_of_ble_eq_true rfl, Nat.le_of_ble_eq_true rfl⟩ rfl (mq_mono (fun o2 ho2 => ?_) hm)
  obtain ⟨S2, I2, A2, e2, hI⟩ := ho2
  subst e2
  show mq 161 832 [some (.ref 0), some (.ref 1), some (.ref 67), some (.ref 76), some (.int (nI i)), l5, l6] [.int v, .int v] (hS n u I2 A2 J B mk1 sn1 L xs X) Q
  exact x_cmp_eq (pc := 832) (t := 948) rfl rfl rfl (fun _ => kk n u I2 A2 J B mk1 sn1 X S2 l5 l6 hI (Nat.le_refl _) (Nat.le_succ _) (Nat.le_add_right _ _)) (fun q => absurd rfl q)
set_option maxRecDepth 100000 in
set_option maxHeartbeats 4000000 in
theorem la_13 {i : Nat} (h : INV k S I A mk sn) (hk : k ≤ 1000) (hn : 77 ≤ n ∧ n < 10000) (hu : u + 6 < 1000000) (hi : i + 4 ≤ L) (hL : L ≤ 2048) {l5 l6 : Option Value} {Q : mO × mHp → Prop} (kk : ∀ n' u' I' A' J' B' mk' sn' X' S' l5' l6', INV (k + 1) S' I' A' mk' sn' → n ≤ n' → n' ≤ n + 1 → u' ≤ u + 6 → mq 161 948 [some (.ref 0), some (.ref 1), some (.ref 67), some (.ref 76), some (.int (nI i)), l5', l6'] [] (hS n' u' I' A' J' B' mk' sn' L xs X') Q) : mq 161 837 [some (.ref 0), some (.ref 1), some (.ref 67), some (.ref 76), some (.int (nI i)), l5, l6] [] (hS n u I A J B mk sn L xs X) Q := by
  refine x_al1 (pc := 837) rfl rfl ?_
  refine q_scr (pc := 838) (c := 1) rfl rfl rfl rfl rfl (by decide) rfl rfl (by omega) hL ?_
  refine q_scr (pc := 844) (c := 2) rfl rfl rfl rfl rfl (by decide) rfl rfl (by omega) hL ?_
  refine q_scr (pc := 850) (c := 3) rfl rfl rfl rfl rfl (by decide) rfl rfl (by omega) hL ?_
  refine x_k (pc := 856) rfl rfl rfl ⟨Nat.le_of_ble_eq_true rfl, Nat.le_of_ble_eq_true rfl, Nat.le_of_ble_eq_true rfl⟩ rfl (mq_mono (fun o ho => ?_) (op_known h _ _ _))
  obtain ⟨v, I1, A1, mk1, sn1, e, hm⟩ := ho
  subst e
  show mq 161 859 [some (.ref 0), some (.ref 1), some (.ref 67), some (.ref 76), some (.int (nI i)), l5, l6] [.int v] (hS n u I1 A1 J B mk1 sn1 L xs X) Q
  refine x_al1 (pc := 859) rfl rfl ?_
  refine q_scr (pc := 860) (c := 1) rfl rfl rfl rfl rfl (by decide) rfl rfl (by omega) hL ?_
  refine q_scr (pc := 866) (c := 2) rfl rfl rfl rfl rfl (by decide) rfl rfl (by omega) hL ?_
  refine q_scr (pc := 872) (c := 3) rfl rfl rfl rfl rfl (by decide) rfl rfl (by omega) hL ?_
  refine x_k (pc := 878) rfl rfl rfl ⟨Nat.le_of_ble_eq_true rfl, Nat.le_of_ble_eq_true rfl, Nat.le_of_ble_eq_true rfl⟩ rfl (mq_mono (fun o2 ho2 => ?_) hm)
  obtain ⟨S2, I2, A2, e2, hI⟩ := ho2
  subst e2
  show mq 161 881 [some (.ref 0), some (.ref 1), some (.ref 67), some (.ref 76), some (.int (nI i)), l5, l6] [.int v, .int v] (hS n u I2 A2 J B mk1 sn1 L xs X) Q
  exact x_cmp_eq (pc := 881) (t := 948) rfl rfl rfl (fun _ => kk n u I2 A2 J B mk1 sn1 X S2 l5 l6 hI (Nat.le_refl _) (Nat.le_succ _) (Nat.le_add_right _ _)) (fun q => absurd rfl q)
set_option maxRecDepth 100000 in
set_option maxHeartbeats 4000000 in
theorem la_14 {i : Nat} (h : INV k S I A mk sn) (hk : k ≤ 1000) (hn : 77 ≤ n ∧ n < 10000) (hu : u + 6 < 1000000) (hi : i + 4 ≤ L) (hL : L ≤ 2048) {l5 l6 : Option Value} {Q : mO × mHp → Prop} (kk : ∀ n' u' I' A' J' B' mk' sn' X' S' l5' l6', INV (k + 1) S' I' A' mk' sn' → n ≤ n' → n' ≤ n + 1 → u' ≤ u + 6 → mq 161 948 [some (.ref 0), some (.ref 1), some (.ref 67), some (.ref 76), some (.int (nI i)), l5', l6'] [] (hS n' u' I' A' J' B' mk' sn' L xs X') Q) : mq 161 886 [some (.ref 0), some (.ref 1), some (.ref 67), some (.ref 76), some (.int (nI i)), l5, l6] [] (hS n u I A J B mk sn L xs X) Q := by
  refine x_al1 (pc := 886) rfl rfl ?_
  refine q_scr (pc := 887) (c := 1) rfl rfl rfl rfl rfl (by decide) rfl rfl (by omega) hL ?_
  refine q_scr (pc := 893) (c := 2) rfl rfl rfl rfl rfl (by decide) rfl rfl (by omega) hL ?_
  refine x_k (pc := 899) rfl rfl rfl ⟨Nat.le_of_ble_eq_true rfl, Nat.le_of_ble_eq_true rfl, Nat.le_of_ble_eq_true rfl⟩ rfl (mq_mono (fun o ho => ?_) (op_octet h _ _))
  obtain ⟨v, I1, A1, mk1, sn1, e, hm⟩ := ho
  subst e
  show mq 161 902 [some (.ref 0), some (.ref 1), some (.ref 67), some (.ref 76), some (.int (nI i)), l5, l6] [.int v] (hS n u I1 A1 J B mk1 sn1 L xs X) Q
  refine x_al1 (pc := 902) rfl rfl ?_
  refine q_scr (pc := 903) (c := 1) rfl rfl rfl rfl rfl (by decide) rfl rfl (by omega) hL ?_
  refine q_scr (pc := 909) (c := 2) rfl rfl rfl rfl rfl (by decide) rfl rfl (by omega) hL ?_
  refine x_k (pc := 915) rfl rfl rfl ⟨Nat.le_of_ble_eq_true rfl, Nat.le_of_ble_eq_true rfl, Nat.le_of_ble_eq_true rfl⟩ rfl (mq_mono (fun o2 ho2 => ?_) hm)
  obtain ⟨S2, I2, A2, e2, hI⟩ := ho2
  subst e2
  show mq 161 918 [some (.ref 0), some (.ref 1), some (.ref 67), some (.ref 76), some (.int (nI i)), l5, l6] [.int v, .int v] (hS n u I2 A2 J B mk1 sn1 L xs X) Q
  exact x_cmp_eq (pc := 918) (t := 948) rfl rfl rfl (fun _ => kk n u I2 A2 J B mk1 sn1 X S2 l5 l6 hI (Nat.le_refl _) (Nat.le_succ _) (Nat.le_add_right _ _)) (fun q => absurd rfl q)
set_option maxRecDepth 100000 in
set_option maxHeartbeats 4000000 in
theorem la_15 {i : Nat} (h : INV k S I A mk sn) (hk : k ≤ 1000) (hn : 77 ≤ n ∧ n < 10000) (hu : u + 6 < 1000000) (hi : i + 4 ≤ L) (hL : L ≤ 2048) {l5 l6 : Option Value} {Q : mO × mHp → Prop} (kk : ∀ n' u' I' A' J' B' mk' sn' X' S' l5' l6', INV (k + 1) S' I' A' mk' sn' → n ≤ n' → n' ≤ n + 1 → u' ≤ u + 6 → mq 161 948 [some (.ref 0), some (.ref 1), some (.ref 67), some (.ref 76), some (.int (nI i)), l5', l6'] [] (hS n' u' I' A' J' B' mk' sn' L xs X') Q) : mq 161 923 [some (.ref 0), some (.ref 1), some (.ref 67), some (.ref 76), some (.int (nI i)), l5, l6] [] (hS n u I A J B mk sn L xs X) Q := by
  refine x_al1 (pc := 923) rfl rfl ?_
  refine q_scr (pc := 924) (c := 1) rfl rfl rfl rfl rfl (by decide) rfl rfl (by omega) hL ?_
  refine x_k (pc := 930) rfl rfl rfl ⟨Nat.le_of_ble_eq_true rfl, Nat.le_of_ble_eq_true rfl, Nat.le_of_ble_eq_true rfl⟩ rfl (mq_mono (fun o ho => ?_) (op_look h _))
  obtain ⟨v, I1, A1, mk1, sn1, e, hm⟩ := ho
  subst e
  show mq 161 933 [some (.ref 0), some (.ref 1), some (.ref 67), some (.ref 76), some (.int (nI i)), l5, l6] [.int v] (hS n u I1 A1 J B mk1 sn1 L xs X) Q
  refine x_al1 (pc := 933) rfl rfl ?_
  refine q_scr (pc := 934) (c := 1) rfl rfl rfl rfl rfl (by decide) rfl rfl (by omega) hL ?_
  refine x_k (pc := 940) rfl rfl rfl ⟨Nat.le_of_ble_eq_true rfl, Nat.le_of_ble_eq_true rfl, Nat.le_of_ble_eq_true rfl⟩ rfl (mq_mono (fun o2 ho2 => ?_) hm)
  obtain ⟨S2, I2, A2, e2, hI⟩ := ho2
  subst e2
  show mq 161 943 [some (.ref 0), some (.ref 1), some (.ref 67), some (.ref 76), some (.int (nI i)), l5, l6] [.int v, .int v] (hS n u I2 A2 J B mk1 sn1 L xs X) Q
  exact x_cmp_eq (pc := 943) (t := 948) rfl rfl rfl (fun _ => kk n u I2 A2 J B mk1 sn1 X S2 l5 l6 hI (Nat.le_refl _) (Nat.le_succ _) (Nat.le_add_right _ _)) (fun q => absurd rfl q)
end S99e
