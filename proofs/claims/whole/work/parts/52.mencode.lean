/-! A batch as bytes: the model. -/
/-- the records whose bit is set, z of them from i on; how many bits are set below i -/
def kp (g : Nat → R5) (m : Nat) : Nat → Nat → List R5
  | 0, _ => []
  | z + 1, i => if m / 2 ^ i % 2 ^ 1 = 0 then kp g m z (i + 1) else g i :: kp g m z (i + 1)
def bcn (m : Nat) : Nat → Nat
  | 0 => 0
  | i + 1 => bcn m i + m / 2 ^ i % 2 ^ 1
theorem kp_len (g : Nat → R5) (m : Nat) : ∀ z i, (kp g m z i).length + bcn m i = bcn m (i + z)
  | 0, i => Nat.zero_add _
  | z + 1, i => by
    have h := kp_len g m z (i + 1)
    have e : bcn m (i + 1) = bcn m i + m / 2 ^ i % 2 ^ 1 := rfl
    rw [show i + (z + 1) = i + 1 + z by omega, ← h, e]
    by_cases hb : m / 2 ^ i % 2 ^ 1 = 0
    · rw [show kp g m (z + 1) i = kp g m z (i + 1) from if_pos hb]
      omega
    · rw [show kp g m (z + 1) i = g i :: kp g m z (i + 1) from if_neg hb, List.length_cons]
      omega
theorem kp_le (g : Nat → R5) (m : Nat) : ∀ z i, (kp g m z i).length ≤ z
  | 0, _ => Nat.le_refl 0
  | z + 1, i => by
    have h := kp_le g m z (i + 1)
    show (if m / 2 ^ i % 2 ^ 1 = 0 then kp g m z (i + 1) else g i :: kp g m z (i + 1)).length ≤ z + 1
    split
    · omega
    · rw [List.length_cons]
      omega
theorem bcn_0 {m : Nat} : ∀ {k : Nat}, (∀ i, i < k → m / 2 ^ i % 2 ^ 1 = 0) → bcn m k = 0
  | 0, _ => rfl
  | k + 1, h => by
    show bcn m k + m / 2 ^ k % 2 ^ 1 = 0
    rw [bcn_0 (fun i hi => h i (by omega)), h k (by omega)]
theorem kp_skip {g : Nat → R5} {m : Nat} : ∀ {z k i : Nat}, (∀ j, i ≤ j → j < i + k → m / 2 ^ j % 2 ^ 1 = 0) → kp g m (k + z) i = kp g m z (i + k)
  | z, 0, i, _ => by rw [Nat.zero_add, Nat.add_zero]
  | z, k + 1, i, h => by
    rw [show k + 1 + z = (k + z) + 1 by omega]
    show (if m / 2 ^ i % 2 ^ 1 = 0 then kp g m (k + z) (i + 1) else _) = _
    rw [if_pos (h i (Nat.le_refl _) (by omega)), kp_skip (fun j h1 h2 => h j (by omega) (by omega)), show i + 1 + k = i + (k + 1) by omega]
theorem shrk {m k : Nat} (hm : m < 16) (hk : k < 4) : nI m >>> (nI k &&& 31) = nI (m / 2 ^ k) := by
  match k, hk with
  | 0, _ => exact pk_shrN (by omega) _ 0 (by decide)
  | 1, _ => exact pk_shrN (by omega) _ 1 (by decide)
  | 2, _ => exact pk_shrN (by omega) _ 2 (by decide)
  | 3, _ => exact pk_shrN (by omega) _ 3 (by decide)
theorem Tp_set {I I' : Nat → Int32} {A A' : Nat → Nat → Int32} {l : List Nat} {p v : Nat} (h : Tp I A l) (hp : p < l.length) (hI : I' 68 = I 68) (hA : A' 54 = upd (A 54) p (nI v)) : Tp I' A' (l.set p v) := by
  refine ⟨by rw [hI, h.1]; simp, fun j hj => ?_⟩
  rw [List.length_set] at hj
  rw [hA, gB0_set hp]
  by_cases hjp : j = p
  · subst hjp
    rw [pk_us, if_pos rfl]
  · rw [pk_un hjp, if_neg hjp, h.2 j hj]
/-- the model's rows of records -/
def MB (a : Nat) (A : Nat → Nat → Int32) (g : Nat → R5) (n : Nat) : Prop := ∀ i, i < n → A a i = (g i).1 ∧ A a (4 + i) = (g i).2.1 ∧ A a (8 + i) = (g i).2.2.1 ∧ A a (12 + i) = (g i).2.2.2.1 ∧ A a (16 + i) = (g i).2.2.2.2
theorem MB_fr {a n : Nat} {A A' : Nat → Nat → Int32} {g : Nat → R5} {S : List Nat} (h : MB a A g n) (f : Fr S A A') (ha : a ∉ S) : MB a A' g n := fun i hi => by
  rw [f a ha]
  exact h i hi
section S52
variable {n u : Nat} {I : Nat → Int32} {A : Nat → Nat → Int32} {J : Int64} {B : Nat → Int64} {mk sn L : Nat} {xs : Nat → Int32} {X : Nat → mC} {D : Nat → Nat} 
theorem lt32 {m k : Nat} (h : m < 16) : m / 2 ^ k < 2 ^ 32 := Nat.lt_of_le_of_lt (Nat.div_le_self _ _) (by omega)
set_option maxRecDepth 100000 in
set_option maxHeartbeats 4000000 in
theorem l_127a_51 {nn m k0 bg : Nat} {ba p s : Int32} {g : Nat → R5} (hm : m < 16) (hnn : nn ≤ 4) (hk4 : k0 < 4) (hb0 : ∀ i, i < k0 → m / 2 ^ i % 2 ^ 1 = 0) (hb1 : ¬ m / 2 ^ k0 % 2 ^ 1 = 0) {Q : mO × mHp → Prop} : ∀ (z k : Nat) , (k + z = k0) → (mq 127 27 [some (.ref 67), some (.ref 69), some (.int (nI nn)), some (.int (nI m)), some (.int ba), some (.int p), some (.int s), some (.int (nI bg)), some (.int (nI k0)), some (.int (nI 0)), none] [] (hS n u I A J B mk sn L xs X) Q) → mq 127 12 [some (.ref 67), some (.ref 69), some (.int (nI nn)), some (.int (nI m)), some (.int ba), some (.int p), some (.int s), some (.int (nI bg)), some (.int (nI k)), some (.int (nI 0)), none] [] (hS n u I A J B mk sn L xs X) Q := by
  intro z
  induction z with
  | zero =>
    intro k  hz kk
    refine x_il1 (pc := 12) rfl rfl ?_
    refine x_il2 (pc := 13) rfl rfl ?_
    refine x_ishrV (pc := 15) (v := nI (m / 2 ^ k)) rfl (shrk hm (by omega)) ?_
    refine x_const (pc := 16) (pc' := 17) (.int (nI 1)) rfl rfl rfl rfl ?_
    refine x_iandV (pc := 17) (v := nI ((m / 2 ^ k) % 2 ^ 1)) rfl (pk_andN (lt32 hm) 1 (by decide)) ?_
    refine x_ifN_ne (pc := 18) (t := 27) rfl rfl (by omega) (fun c18 => ?_) (fun c18 => ?_)
    · rw [show k = k0 by omega]
      exact kk
    · exact absurd (show m / 2 ^ k0 % 2 ^ 1 = 0 by rw [← show k = k0 by omega]; exact c18) hb1
  | succ z ih =>
    intro k  hz kk
    refine x_il1 (pc := 12) rfl rfl ?_
    refine x_il2 (pc := 13) rfl rfl ?_
    refine x_ishrV (pc := 15) (v := nI (m / 2 ^ k)) rfl (shrk hm (by omega)) ?_
    refine x_const (pc := 16) (pc' := 17) (.int (nI 1)) rfl rfl rfl rfl ?_
    refine x_iandV (pc := 17) (v := nI ((m / 2 ^ k) % 2 ^ 1)) rfl (pk_andN (lt32 hm) 1 (by decide)) ?_
    refine x_ifN_ne (pc := 18) (t := 27) rfl rfl (by omega) (fun c18 => ?_) (fun c18 => ?_)
    · exact absurd (hb0 k (by omega)) c18
    · refine x_iincN (pc := 21) (c := 1) (ml' := [some (.ref 67), some (.ref 69), some (.int (nI nn)), some (.int (nI m)), some (.int ba), some (.int p), some (.int s), some (.int (nI bg)), some (.int (nI (k + 1))), some (.int (nI 0)), none]) rfl rfl rfl rfl ?_
      refine x_step (pc := 24) (pc' := 12) rfl rfl rfl rfl ?_
      exact ih (k + 1) (by omega) kk
set_option maxRecDepth 100000 in
set_option maxHeartbeats 4000000 in
theorem l_127b_51 {nn m k0 bg : Nat} {ba p s : Int32} {g : Nat → R5} (hm : m < 16) (hnn : nn ≤ 4) {Q : mO × mHp → Prop} : ∀ (z i : Nat) , (i + z = nn) → (mq 127 53 [some (.ref 67), some (.ref 69), some (.int (nI nn)), some (.int (nI m)), some (.int ba), some (.int p), some (.int s), some (.int (nI bg)), some (.int (nI k0)), some (.int (nI (bcn m nn))), some (.int (nI nn))] [] (hS n u I A J B mk sn L xs X) Q) → mq 127 30 [some (.ref 67), some (.ref 69), some (.int (nI nn)), some (.int (nI m)), some (.int ba), some (.int p), some (.int s), some (.int (nI bg)), some (.int (nI k0)), some (.int (nI (bcn m i))), some (.int (nI i))] [] (hS n u I A J B mk sn L xs X) Q := by
  intro z
  induction z with
  | zero =>
    intro i  hz kk
    refine x_il2 (pc := 30) rfl rfl ?_
    refine x_il1 (pc := 32) rfl rfl ?_
    refine x_cmpN_ge (pc := 33) (t := 53) rfl rfl (by omega) (by omega) (fun c33 => ?_) (fun c33 => ?_)
    · rw [show i = nn by omega]
      exact kk
    · omega
  | succ z ih =>
    intro i  hz kk
    refine x_il2 (pc := 30) rfl rfl ?_
    refine x_il1 (pc := 32) rfl rfl ?_
    refine x_cmpN_ge (pc := 33) (t := 53) rfl rfl (by omega) (by omega) (fun c33 => ?_) (fun c33 => ?_)
    · omega
    · refine x_il2 (pc := 36) rfl rfl ?_
      refine x_il1 (pc := 38) rfl rfl ?_
      refine x_il2 (pc := 39) rfl rfl ?_
      refine x_ishrV (pc := 41) (v := nI (m / 2 ^ i)) rfl (shrk hm (by omega)) ?_
      refine x_const (pc := 42) (pc' := 43) (.int (nI 1)) rfl rfl rfl rfl ?_
      refine x_iandV (pc := 43) (v := nI ((m / 2 ^ i) % 2 ^ 1)) rfl (pk_andN (lt32 hm) 1 (by decide)) ?_
      refine x_iaddN (pc := 44) (c := (bcn m i) + ((m / 2 ^ i) % 2 ^ 1)) rfl rfl ?_
      refine x_is2 (pc := 45) (ml' := [some (.ref 67), some (.ref 69), some (.int (nI nn)), some (.int (nI m)), some (.int ba), some (.int p), some (.int s), some (.int (nI bg)), some (.int (nI k0)), some (.int (nI ((bcn m i) + ((m / 2 ^ i) % 2 ^ 1)))), some (.int (nI i))]) rfl rfl ?_
      refine x_iincN (pc := 47) (c := 1) (ml' := [some (.ref 67), some (.ref 69), some (.int (nI nn)), some (.int (nI m)), some (.int ba), some (.int p), some (.int s), some (.int (nI bg)), some (.int (nI k0)), some (.int (nI ((bcn m i) + ((m / 2 ^ i) % 2 ^ 1)))), some (.int (nI (i + 1)))]) rfl rfl rfl rfl ?_
      refine x_step (pc := 50) (pc' := 30) rfl rfl rfl rfl ?_
      exact ih (i + 1) (by omega) kk
set_option maxRecDepth 100000 in
set_option maxHeartbeats 4000000 in
theorem l_127c_51 {nn m k0 bg : Nat} {ba p s : Int32} {g : Nat → R5} (hm : m < 16) (hnn : nn ≤ 4) {cn : Nat} (hk0 : k0 < nn) {Q : mO × mHp → Prop} : ∀ (z i : Nat) (t : List Nat) {I : Nat → Int32} {A : Nat → Nat → Int32}, (i + z = nn) → (Tp I A t) → (t.length + 21 * z < 580) → (MB 51 A g nn) → (∀ I' A', Fr [68] I I' → Fr [54] A A' → Tp I' A' (t ++ eRs (g k0) (kp g m z i)) → mq 127 198 [some (.ref 67), some (.ref 69), some (.int (nI nn)), some (.int (nI m)), some (.int ba), some (.int p), some (.int s), some (.int (nI bg)), some (.int (nI k0)), some (.int (nI cn)), some (.int (nI nn))] [] (hS n u I' A' J B mk sn L xs X) Q) → mq 127 101 [some (.ref 67), some (.ref 69), some (.int (nI nn)), some (.int (nI m)), some (.int ba), some (.int p), some (.int s), some (.int (nI bg)), some (.int (nI k0)), some (.int (nI cn)), some (.int (nI i))] [] (hS n u I A J B mk sn L xs X) Q := by
  intro z
  induction z with
  | zero =>
    intro i t I A hz hP hlt hM kk
    refine x_il2 (pc := 101) rfl rfl ?_
    refine x_il1 (pc := 103) rfl rfl ?_
    refine x_cmpN_ge (pc := 104) (t := 198) rfl rfl (by omega) (by omega) (fun c104 => ?_) (fun c104 => ?_)
    · rw [show i = nn by omega]
      refine kk I A (Fr_refl _ _) (Fr_refl _ _) ?_
      have e : t ++ eRs (g k0) (kp g m 0 i) = t := List.append_nil t
      rw [e]
      exact hP
    · omega
  | succ z ih =>
    intro i t I A hz hP hlt hM kk
    refine x_il2 (pc := 101) rfl rfl ?_
    refine x_il1 (pc := 103) rfl rfl ?_
    refine x_cmpN_ge (pc := 104) (t := 198) rfl rfl (by omega) (by omega) (fun c104 => ?_) (fun c104 => ?_)
    · omega
    · refine x_il1 (pc := 107) rfl rfl ?_
      refine x_il2 (pc := 108) rfl rfl ?_
      refine x_ishrV (pc := 110) (v := nI (m / 2 ^ i)) rfl (shrk hm (by omega)) ?_
      refine x_const (pc := 111) (pc' := 112) (.int (nI 1)) rfl rfl rfl rfl ?_
      refine x_iandV (pc := 112) (v := nI ((m / 2 ^ i) % 2 ^ 1)) rfl (pk_andN (lt32 hm) 1 (by decide)) ?_
      refine x_ifN_ne (pc := 113) (t := 119) rfl rfl (by omega) (fun c113 => ?_) (fun c113 => ?_)
      · refine x_al1 (pc := 119) rfl rfl ?_
        refine x_al1 (pc := 120) rfl rfl ?_
        refine x_il2 (pc := 121) rfl rfl ?_
        refine al_69 (pc := 123) (q := i) (v := (g i).1) rfl rfl (by omega) ((hM i (by omega)).1) ?_
        refine x_al1 (pc := 124) rfl rfl ?_
        refine x_il2 (pc := 125) rfl rfl ?_
        refine al_69 (pc := 127) (q := k0) (v := (g k0).1) rfl rfl (by omega) ((hM k0 (by omega)).1) ?_
        refine x_isubV (pc := 128) (v := nI (uN (((g i).1) - ((g k0).1)))) rfl ((nI_uN _).symm) ?_
        refine x_k (pc := 129) rfl rfl rfl ⟨Nat.le_of_ble_eq_true rfl, Nat.le_of_ble_eq_true rfl, Nat.le_of_ble_eq_true rfl⟩ rfl (k_129 (I := I) (A := A) (m := uN (((g i).1) - ((g k0).1))) (l := t) hP (by omega) (uN_lt _) (fun I1 A1 f1 g1 h1 => ?_))
        show mq 127 132 [some (.ref 67), some (.ref 69), some (.int (nI nn)), some (.int (nI m)), some (.int ba), some (.int p), some (.int s), some (.int (nI bg)), some (.int (nI k0)), some (.int (nI cn)), some (.int (nI i))] [] (hS n u I1 A1 J B mk sn L xs X) _
        obtain ⟨t1, ht1⟩ : ∃ x, x = t ++ vE 4 (uN (((g i).1) - ((g k0).1))) := ⟨_, rfl⟩
        rw [← ht1] at h1
        have hn1 : t1.length ≤ t.length + 5 := by rw [ht1]; have := vE_len 4 (uN (((g i).1) - ((g k0).1))); simp; omega
        refine x_al1 (pc := 132) rfl rfl ?_
        refine x_al1 (pc := 133) rfl rfl ?_
        refine x_const (pc := 134) (pc' := 135) (.int (nI 4)) rfl rfl rfl rfl ?_
        refine x_il2 (pc := 135) rfl rfl ?_
        refine x_iaddN (pc := 137) (c := 4 + i) rfl rfl ?_
        refine al_69 (pc := 138) (q := 4 + i) (v := (g i).2.1) rfl rfl (by omega) (show _ = _ from by rw [(show Fr [54] A A1 from (Fr_cons (Fr_refl _ _) g1 (by decide))) 51 (by decide)]; exact (hM i (by omega)).2.1) ?_
        refine x_al1 (pc := 139) rfl rfl ?_
        refine x_const (pc := 140) (pc' := 141) (.int (nI 4)) rfl rfl rfl rfl ?_
        refine x_il2 (pc := 141) rfl rfl ?_
        refine x_iaddN (pc := 143) (c := 4 + k0) rfl rfl ?_
        refine al_69 (pc := 144) (q := 4 + k0) (v := (g k0).2.1) rfl rfl (by omega) (show _ = _ from by rw [(show Fr [54] A A1 from (Fr_cons (Fr_refl _ _) g1 (by decide))) 51 (by decide)]; exact (hM k0 (by omega)).2.1) ?_
        refine x_isub (pc := 145) rfl rfl ?_
        refine x_k (pc := 146) rfl rfl rfl ⟨Nat.le_of_ble_eq_true rfl, Nat.le_of_ble_eq_true rfl, Nat.le_of_ble_eq_true rfl⟩ rfl (k_130 (I := I1) (A := A1) (x := ((g i).2.1) - ((g k0).2.1)) (l := t1) h1 (by omega) (fun I2 A2 f2 g2 h2 => ?_))
        show mq 127 149 [some (.ref 67), some (.ref 69), some (.int (nI nn)), some (.int (nI m)), some (.int ba), some (.int p), some (.int s), some (.int (nI bg)), some (.int (nI k0)), some (.int (nI cn)), some (.int (nI i))] [] (hS n u I2 A2 J B mk sn L xs X) _
        obtain ⟨t2, ht2⟩ : ∃ x, x = t1 ++ vE 4 (zN (((g i).2.1) - ((g k0).2.1))) := ⟨_, rfl⟩
        rw [← ht2] at h2
        have hn2 : t2.length ≤ t1.length + 5 := by rw [ht2]; have := vE_len 4 (zN (((g i).2.1) - ((g k0).2.1))); simp; omega
        refine x_al1 (pc := 149) rfl rfl ?_
        refine x_al1 (pc := 150) rfl rfl ?_
        refine x_const (pc := 151) (pc' := 153) (.int (nI 8)) rfl rfl rfl rfl ?_
        refine x_il2 (pc := 153) rfl rfl ?_
        refine x_iaddN (pc := 155) (c := 8 + i) rfl rfl ?_
        refine al_69 (pc := 156) (q := 8 + i) (v := (g i).2.2.1) rfl rfl (by omega) (show _ = _ from by rw [(show Fr [54] A A2 from (Fr_cons (Fr_cons (Fr_refl _ _) g1 (by decide)) g2 (by decide))) 51 (by decide)]; exact (hM i (by omega)).2.2.1) ?_
        refine x_k (pc := 157) rfl rfl rfl ⟨Nat.le_of_ble_eq_true rfl, Nat.le_of_ble_eq_true rfl, Nat.le_of_ble_eq_true rfl⟩ rfl (k_130 (I := I2) (A := A2) (x := (g i).2.2.1) (l := t2) h2 (by omega) (fun I3 A3 f3 g3 h3 => ?_))
        show mq 127 160 [some (.ref 67), some (.ref 69), some (.int (nI nn)), some (.int (nI m)), some (.int ba), some (.int p), some (.int s), some (.int (nI bg)), some (.int (nI k0)), some (.int (nI cn)), some (.int (nI i))] [] (hS n u I3 A3 J B mk sn L xs X) _
        obtain ⟨t3, ht3⟩ : ∃ x, x = t2 ++ vE 4 (zN ((g i).2.2.1)) := ⟨_, rfl⟩
        rw [← ht3] at h3
        have hn3 : t3.length ≤ t2.length + 5 := by rw [ht3]; have := vE_len 4 (zN ((g i).2.2.1)); simp; omega
        refine x_al1 (pc := 160) rfl rfl ?_
        refine x_al1 (pc := 161) rfl rfl ?_
        refine x_const (pc := 162) (pc' := 164) (.int (nI 16)) rfl rfl rfl rfl ?_
        refine x_il2 (pc := 164) rfl rfl ?_
        refine x_iaddN (pc := 166) (c := 16 + i) rfl rfl ?_
        refine al_69 (pc := 167) (q := 16 + i) (v := (g i).2.2.2.2) rfl rfl (by omega) (show _ = _ from by rw [(show Fr [54] A A3 from (Fr_cons (Fr_cons (Fr_cons (Fr_refl _ _) g1 (by decide)) g2 (by decide)) g3 (by decide))) 51 (by decide)]; exact (hM i (by omega)).2.2.2.2) ?_
        refine x_k (pc := 168) rfl rfl rfl ⟨Nat.le_of_ble_eq_true rfl, Nat.le_of_ble_eq_true rfl, Nat.le_of_ble_eq_true rfl⟩ rfl (k_128 (I := I3) (A := A3) (x := (g i).2.2.2.2) (l := t3) h3 (by omega) (fun I4 A4 f4 g4 h4 => ?_))
        show mq 127 171 [some (.ref 67), some (.ref 69), some (.int (nI nn)), some (.int (nI m)), some (.int ba), some (.int p), some (.int s), some (.int (nI bg)), some (.int (nI k0)), some (.int (nI cn)), some (.int (nI i))] [] (hS n u I4 A4 J B mk sn L xs X) _
        obtain ⟨t4, ht4⟩ : ∃ x, x = t3 ++ [b8 ((g i).2.2.2.2)] := ⟨_, rfl⟩
        rw [← ht4] at h4
        have hn4 : t4.length ≤ t3.length + 1 := by rw [ht4]; simp
        refine x_al1 (pc := 171) rfl rfl ?_
        refine x_const (pc := 172) (pc' := 174) (.int (nI 16)) rfl rfl rfl rfl ?_
        refine x_il2 (pc := 174) rfl rfl ?_
        refine x_iaddN (pc := 176) (c := 16 + i) rfl rfl ?_
        refine al_69 (pc := 177) (q := 16 + i) (v := (g i).2.2.2.2) rfl rfl (by omega) (show _ = _ from by rw [(show Fr [54] A A4 from (Fr_cons (Fr_cons (Fr_cons (Fr_cons (Fr_refl _ _) g1 (by decide)) g2 (by decide)) g3 (by decide)) g4 (by decide))) 51 (by decide)]; exact (hM i (by omega)).2.2.2.2) ?_
        refine x_if_ne (pc := 178) (t := 192) rfl rfl rfl (fun c178 => ?_) (fun c178 => ?_)
        · refine x_iincN (pc := 192) (c := 1) (ml' := [some (.ref 67), some (.ref 69), some (.int (nI nn)), some (.int (nI m)), some (.int ba), some (.int p), some (.int s), some (.int (nI bg)), some (.int (nI k0)), some (.int (nI cn)), some (.int (nI (i + 1)))]) rfl rfl rfl rfl ?_
          refine x_step (pc := 195) (pc' := 101) rfl rfl rfl rfl ?_
          have ev : t ++ eRs (g k0) (kp g m (z + 1) i) = t4 ++ eRs (g k0) (kp g m z (i + 1)) := by
            rw [show kp g m (z + 1) i = g i :: kp g m z (i + 1) from if_neg c113]
            show t ++ (eR (g k0) (g i) ++ eRs (g k0) (kp g m z (i + 1))) = _
            unfold eR
            rw [if_neg c178]
            simp only [ht4, ht3, ht2, ht1, List.append_assoc, List.cons_append, List.nil_append, List.append_nil]
          rw [ev] at kk
          exact ih (i + 1) _ (I := I4) (A := A4) (by omega) h4 (by omega) (MB_fr hM (show Fr [54] A A4 from (Fr_cons (Fr_cons (Fr_cons (Fr_cons (Fr_refl _ _) g1 (by decide)) g2 (by decide)) g3 (by decide)) g4 (by decide))) (by decide)) (fun I9 A9 f9 g9 h9 => kk I9 A9 (Fr_cons (Fr_cons (Fr_cons (Fr_cons (Fr_cons (Fr_refl _ _) f1 (by decide)) f2 (by decide)) f3 (by decide)) f4 (by decide)) f9 (by decide)) (Fr_cons (Fr_cons (Fr_cons (Fr_cons (Fr_cons (Fr_refl _ _) g1 (by decide)) g2 (by decide)) g3 (by decide)) g4 (by decide)) g9 (by decide)) h9)
        · refine x_al1 (pc := 181) rfl rfl ?_
          refine x_al1 (pc := 182) rfl rfl ?_
          refine x_const (pc := 183) (pc' := 185) (.int (nI 12)) rfl rfl rfl rfl ?_
          refine x_il2 (pc := 185) rfl rfl ?_
          refine x_iaddN (pc := 187) (c := 12 + i) rfl rfl ?_
          refine al_69 (pc := 188) (q := 12 + i) (v := (g i).2.2.2.1) rfl rfl (by omega) (show _ = _ from by rw [(show Fr [54] A A4 from (Fr_cons (Fr_cons (Fr_cons (Fr_cons (Fr_refl _ _) g1 (by decide)) g2 (by decide)) g3 (by decide)) g4 (by decide))) 51 (by decide)]; exact (hM i (by omega)).2.2.2.1) ?_
          refine x_k (pc := 189) rfl rfl rfl ⟨Nat.le_of_ble_eq_true rfl, Nat.le_of_ble_eq_true rfl, Nat.le_of_ble_eq_true rfl⟩ rfl (k_130 (I := I4) (A := A4) (x := (g i).2.2.2.1) (l := t4) h4 (by omega) (fun I5 A5 f5 g5 h5 => ?_))
          show mq 127 192 [some (.ref 67), some (.ref 69), some (.int (nI nn)), some (.int (nI m)), some (.int ba), some (.int p), some (.int s), some (.int (nI bg)), some (.int (nI k0)), some (.int (nI cn)), some (.int (nI i))] [] (hS n u I5 A5 J B mk sn L xs X) _
          obtain ⟨t5, ht5⟩ : ∃ x, x = t4 ++ vE 4 (zN ((g i).2.2.2.1)) := ⟨_, rfl⟩
          rw [← ht5] at h5
          have hn5 : t5.length ≤ t4.length + 5 := by rw [ht5]; have := vE_len 4 (zN ((g i).2.2.2.1)); simp; omega
          refine x_iincN (pc := 192) (c := 1) (ml' := [some (.ref 67), some (.ref 69), some (.int (nI nn)), some (.int (nI m)), some (.int ba), some (.int p), some (.int s), some (.int (nI bg)), some (.int (nI k0)), some (.int (nI cn)), some (.int (nI (i + 1)))]) rfl rfl rfl rfl ?_
          refine x_step (pc := 195) (pc' := 101) rfl rfl rfl rfl ?_
          have ev : t ++ eRs (g k0) (kp g m (z + 1) i) = t5 ++ eRs (g k0) (kp g m z (i + 1)) := by
            rw [show kp g m (z + 1) i = g i :: kp g m z (i + 1) from if_neg c113]
            show t ++ (eR (g k0) (g i) ++ eRs (g k0) (kp g m z (i + 1))) = _
            unfold eR
            rw [if_pos c178]
            simp only [ht5, ht4, ht3, ht2, ht1, List.append_assoc, List.cons_append, List.nil_append, List.append_nil]
          rw [ev] at kk
          exact ih (i + 1) _ (I := I5) (A := A5) (by omega) h5 (by omega) (MB_fr hM (show Fr [54] A A5 from (Fr_cons (Fr_cons (Fr_cons (Fr_cons (Fr_cons (Fr_refl _ _) g1 (by decide)) g2 (by decide)) g3 (by decide)) g4 (by decide)) g5 (by decide))) (by decide)) (fun I9 A9 f9 g9 h9 => kk I9 A9 (Fr_cons (Fr_cons (Fr_cons (Fr_cons (Fr_cons (Fr_cons (Fr_refl _ _) f1 (by decide)) f2 (by decide)) f3 (by decide)) f4 (by decide)) f5 (by decide)) f9 (by decide)) (Fr_cons (Fr_cons (Fr_cons (Fr_cons (Fr_cons (Fr_cons (Fr_refl _ _) g1 (by decide)) g2 (by decide)) g3 (by decide)) g4 (by decide)) g5 (by decide)) g9 (by decide)) h9)
      · refine x_step (pc := 116) (pc' := 192) rfl rfl rfl rfl ?_
        refine x_iincN (pc := 192) (c := 1) (ml' := [some (.ref 67), some (.ref 69), some (.int (nI nn)), some (.int (nI m)), some (.int ba), some (.int p), some (.int s), some (.int (nI bg)), some (.int (nI k0)), some (.int (nI cn)), some (.int (nI (i + 1)))]) rfl rfl rfl rfl ?_
        refine x_step (pc := 195) (pc' := 101) rfl rfl rfl rfl ?_
        have ev : kp g m (z + 1) i = kp g m z (i + 1) := if_pos c113
        rw [ev] at kk
        exact ih (i + 1) t (by omega) hP (by omega) hM kk
set_option maxRecDepth 100000 in
set_option maxHeartbeats 4000000 in
theorem k_127_51 {nn m k0 : Nat} {ba p s : Int32} {g : Nat → R5} {t : List Nat} (hm : m < 16) (hnn : nn ≤ 4) (hk0 : k0 < nn) (hb0 : ∀ i, i < k0 → m / 2 ^ i % 2 ^ 1 = 0) (hb1 : ¬ m / 2 ^ k0 % 2 ^ 1 = 0) (hM : MB 51 A g nn) (hP : Tp I A t) (hlt : t.length + 21 * nn < 554) {Q : mO × mHp → Prop} (kk : ∀ I' A', Fr [68] I I' → Fr [54] A A' → Tp I' A' (t ++ eBt ba p s (kp g m (nn - k0) k0)) → Q (.inl none, hS n u I' A' J B mk sn L xs X)) : mq 127 0 [some (.ref 67), some (.ref 69), some (.int (nI nn)), some (.int (nI m)), some (.int ba), some (.int p), some (.int s), none, none, none, none] [] (hS n u I A J B mk sn L xs X) Q := by
  refine x_al1 (pc := 0) rfl rfl ?_
  refine g_67_13 (pc := 1) (v := nI t.length) rfl rfl hP.1 ?_
  refine x_is2 (pc := 4) (ml' := [some (.ref 67), some (.ref 69), some (.int (nI nn)), some (.int (nI m)), some (.int ba), some (.int p), some (.int s), some (.int (nI t.length)), none, none, none]) rfl rfl ?_
  refine x_const (pc := 6) (pc' := 7) (.int (nI 0)) rfl rfl rfl rfl ?_
  refine x_is2 (pc := 7) (ml' := [some (.ref 67), some (.ref 69), some (.int (nI nn)), some (.int (nI m)), some (.int ba), some (.int p), some (.int s), some (.int (nI t.length)), some (.int (nI 0)), none, none]) rfl rfl ?_
  refine x_const (pc := 9) (pc' := 10) (.int (nI 0)) rfl rfl rfl rfl ?_
  refine x_is2 (pc := 10) (ml' := [some (.ref 67), some (.ref 69), some (.int (nI nn)), some (.int (nI m)), some (.int ba), some (.int p), some (.int s), some (.int (nI t.length)), some (.int (nI 0)), some (.int (nI 0)), none]) rfl rfl ?_
  refine l_127a_51 (bg := t.length) (g := g) hm hnn (by omega) hb0 hb1 k0 0 (Nat.zero_add _) ?_
  refine x_const (pc := 27) (pc' := 28) (.int (nI 0)) rfl rfl rfl rfl ?_
  refine x_is2 (pc := 28) (ml' := [some (.ref 67), some (.ref 69), some (.int (nI nn)), some (.int (nI m)), some (.int ba), some (.int p), some (.int s), some (.int (nI t.length)), some (.int (nI k0)), some (.int (nI 0)), some (.int (nI 0))]) rfl rfl ?_
  refine l_127b_51 (bg := t.length) (g := g) (k0 := k0) hm hnn nn 0 (Nat.zero_add _) ?_
  refine x_al1 (pc := 53) rfl rfl ?_
  refine x_const (pc := 54) (pc' := 55) (.int (nI 0)) rfl rfl rfl rfl ?_
  refine x_k (pc := 55) rfl rfl rfl ⟨Nat.le_of_ble_eq_true rfl, Nat.le_of_ble_eq_true rfl, Nat.le_of_ble_eq_true rfl⟩ rfl (k_128 (I := I) (A := A) (x := nI 0) (l := t) hP (by omega) (fun I1 A1 f1 g1 h1 => ?_))
  show mq 127 58 [some (.ref 67), some (.ref 69), some (.int (nI nn)), some (.int (nI m)), some (.int ba), some (.int p), some (.int s), some (.int (nI t.length)), some (.int (nI k0)), some (.int (nI (bcn m nn))), some (.int (nI nn))] [] (hS n u I1 A1 J B mk sn L xs X) _
  obtain ⟨t1, ht1⟩ : ∃ x, x = t ++ [b8 (nI 0)] := ⟨_, rfl⟩
  rw [← ht1] at h1
  have hn1 : t1.length ≤ t.length + 1 := by rw [ht1]; simp
  refine x_al1 (pc := 58) rfl rfl ?_
  refine x_al1 (pc := 59) rfl rfl ?_
  refine x_il2 (pc := 60) rfl rfl ?_
  refine al_69 (pc := 62) (q := k0) (v := (g k0).1) rfl rfl (by omega) (show _ = _ from by rw [(show Fr [54] A A1 from (Fr_cons (Fr_refl _ _) g1 (by decide))) 51 (by decide)]; exact (hM k0 (by omega)).1) ?_
  refine x_il2 (pc := 63) rfl rfl ?_
  refine x_isubV (pc := 65) (v := nI (uN (((g k0).1) - ba))) rfl ((nI_uN _).symm) ?_
  refine x_k (pc := 66) rfl rfl rfl ⟨Nat.le_of_ble_eq_true rfl, Nat.le_of_ble_eq_true rfl, Nat.le_of_ble_eq_true rfl⟩ rfl (k_129 (I := I1) (A := A1) (m := uN (((g k0).1) - ba)) (l := t1) h1 (by omega) (uN_lt _) (fun I2 A2 f2 g2 h2 => ?_))
  show mq 127 69 [some (.ref 67), some (.ref 69), some (.int (nI nn)), some (.int (nI m)), some (.int ba), some (.int p), some (.int s), some (.int (nI t.length)), some (.int (nI k0)), some (.int (nI (bcn m nn))), some (.int (nI nn))] [] (hS n u I2 A2 J B mk sn L xs X) _
  obtain ⟨t2, ht2⟩ : ∃ x, x = t1 ++ vE 4 (uN (((g k0).1) - ba)) := ⟨_, rfl⟩
  rw [← ht2] at h2
  have hn2 : t2.length ≤ t1.length + 5 := by rw [ht2]; have := vE_len 4 (uN (((g k0).1) - ba)); simp; omega
  refine x_al1 (pc := 69) rfl rfl ?_
  refine x_al1 (pc := 70) rfl rfl ?_
  refine x_const (pc := 71) (pc' := 72) (.int (nI 4)) rfl rfl rfl rfl ?_
  refine x_il2 (pc := 72) rfl rfl ?_
  refine x_iaddN (pc := 74) (c := 4 + k0) rfl rfl ?_
  refine al_69 (pc := 75) (q := 4 + k0) (v := (g k0).2.1) rfl rfl (by omega) (show _ = _ from by rw [(show Fr [54] A A2 from (Fr_cons (Fr_cons (Fr_refl _ _) g1 (by decide)) g2 (by decide))) 51 (by decide)]; exact (hM k0 (by omega)).2.1) ?_
  refine x_k (pc := 76) rfl rfl rfl ⟨Nat.le_of_ble_eq_true rfl, Nat.le_of_ble_eq_true rfl, Nat.le_of_ble_eq_true rfl⟩ rfl (k_130 (I := I2) (A := A2) (x := (g k0).2.1) (l := t2) h2 (by omega) (fun I3 A3 f3 g3 h3 => ?_))
  show mq 127 79 [some (.ref 67), some (.ref 69), some (.int (nI nn)), some (.int (nI m)), some (.int ba), some (.int p), some (.int s), some (.int (nI t.length)), some (.int (nI k0)), some (.int (nI (bcn m nn))), some (.int (nI nn))] [] (hS n u I3 A3 J B mk sn L xs X) _
  obtain ⟨t3, ht3⟩ : ∃ x, x = t2 ++ vE 4 (zN ((g k0).2.1)) := ⟨_, rfl⟩
  rw [← ht3] at h3
  have hn3 : t3.length ≤ t2.length + 5 := by rw [ht3]; have := vE_len 4 (zN ((g k0).2.1)); simp; omega
  refine x_al1 (pc := 79) rfl rfl ?_
  refine x_il2 (pc := 80) rfl rfl ?_
  refine x_k (pc := 82) rfl rfl rfl ⟨Nat.le_of_ble_eq_true rfl, Nat.le_of_ble_eq_true rfl, Nat.le_of_ble_eq_true rfl⟩ rfl (k_128 (I := I3) (A := A3) (x := p) (l := t3) h3 (by omega) (fun I4 A4 f4 g4 h4 => ?_))
  show mq 127 85 [some (.ref 67), some (.ref 69), some (.int (nI nn)), some (.int (nI m)), some (.int ba), some (.int p), some (.int s), some (.int (nI t.length)), some (.int (nI k0)), some (.int (nI (bcn m nn))), some (.int (nI nn))] [] (hS n u I4 A4 J B mk sn L xs X) _
  obtain ⟨t4, ht4⟩ : ∃ x, x = t3 ++ [b8 (p)] := ⟨_, rfl⟩
  rw [← ht4] at h4
  have hn4 : t4.length ≤ t3.length + 1 := by rw [ht4]; simp
  refine x_al1 (pc := 85) rfl rfl ?_
  refine x_il2 (pc := 86) rfl rfl ?_
  refine x_top (y := nI (uN s)) ((nI_uN s).symm) ?_
  refine x_k (pc := 88) rfl rfl rfl ⟨Nat.le_of_ble_eq_true rfl, Nat.le_of_ble_eq_true rfl, Nat.le_of_ble_eq_true rfl⟩ rfl (k_129 (I := I4) (A := A4) (m := uN s) (l := t4) h4 (by omega) (uN_lt _) (fun I5 A5 f5 g5 h5 => ?_))
  show mq 127 91 [some (.ref 67), some (.ref 69), some (.int (nI nn)), some (.int (nI m)), some (.int ba), some (.int p), some (.int s), some (.int (nI t.length)), some (.int (nI k0)), some (.int (nI (bcn m nn))), some (.int (nI nn))] [] (hS n u I5 A5 J B mk sn L xs X) _
  obtain ⟨t5, ht5⟩ : ∃ x, x = t4 ++ vE 4 (uN s) := ⟨_, rfl⟩
  rw [← ht5] at h5
  have hn5 : t5.length ≤ t4.length + 5 := by rw [ht5]; have := vE_len 4 (uN s); simp; omega
  refine x_al1 (pc := 91) rfl rfl ?_
  refine x_il2 (pc := 92) rfl rfl ?_
  refine x_k (pc := 94) rfl rfl rfl ⟨Nat.le_of_ble_eq_true rfl, Nat.le_of_ble_eq_true rfl, Nat.le_of_ble_eq_true rfl⟩ rfl (k_128 (I := I5) (A := A5) (x := nI (bcn m nn)) (l := t5) h5 (by omega) (fun I6 A6 f6 g6 h6 => ?_))
  show mq 127 97 [some (.ref 67), some (.ref 69), some (.int (nI nn)), some (.int (nI m)), some (.int ba), some (.int p), some (.int s), some (.int (nI t.length)), some (.int (nI k0)), some (.int (nI (bcn m nn))), some (.int (nI nn))] [] (hS n u I6 A6 J B mk sn L xs X) _
  obtain ⟨t6, ht6⟩ : ∃ x, x = t5 ++ [b8 (nI (bcn m nn))] := ⟨_, rfl⟩
  rw [← ht6] at h6
  have hn6 : t6.length ≤ t5.length + 1 := by rw [ht6]; simp
  refine x_il2 (pc := 97) rfl rfl ?_
  refine x_is2 (pc := 99) (ml' := [some (.ref 67), some (.ref 69), some (.int (nI nn)), some (.int (nI m)), some (.int ba), some (.int p), some (.int s), some (.int (nI t.length)), some (.int (nI k0)), some (.int (nI (bcn m nn))), some (.int (nI k0))]) rfl rfl ?_
  refine l_127c_51 (I := I6) (A := A6) (bg := t.length) (p := p) (s := s) (ba := ba) (cn := bcn m nn) hm hnn hk0 (nn - k0) k0 t6 (by omega) h6 (by omega) (MB_fr hM (show Fr [54] A A6 from (Fr_cons (Fr_cons (Fr_cons (Fr_cons (Fr_cons (Fr_cons (Fr_refl _ _) g1 (by decide)) g2 (by decide)) g3 (by decide)) g4 (by decide)) g5 (by decide)) g6 (by decide))) (by decide)) (fun I9 A9 f9 g9 h9 => ?_)
  have e0 : gR (kp g m (nn - k0) k0) 0 = g k0 := by
    obtain ⟨z, hz⟩ : ∃ z, nn - k0 = z + 1 := ⟨nn - k0 - 1, by omega⟩
    rw [hz, show kp g m (z + 1) k0 = g k0 :: kp g m z (k0 + 1) from if_neg hb1]
    rfl
  have el : (kp g m (nn - k0) k0).length = bcn m nn := by
    have h5 := kp_len g m (nn - k0) k0
    rw [bcn_0 hb0, show k0 + (nn - k0) = nn by omega] at h5
    exact h5
  have e9 : t6 ++ eRs (g k0) (kp g m (nn - k0) k0) = t ++ (0 :: eCn ba p s (kp g m (nn - k0) k0)) := by
    unfold eCn
    rw [e0, el]
    simp only [ht6, ht5, ht4, ht3, ht2, ht1, b8_nI, List.append_assoc, List.cons_append, List.nil_append]
  rw [e9] at h9
  have hle := kp_le g m (nn - k0) k0
  have hcl := eCn_len ba p s (kp g m (nn - k0) k0)
  have hfl : (t ++ (0 :: eCn ba p s (kp g m (nn - k0) k0))).length = t.length + 1 + (eCn ba p s (kp g m (nn - k0) k0)).length := by simp; omega
  refine x_al1 (pc := 198) rfl rfl ?_
  refine g_67_12 (pc := 199) rfl rfl ?_
  refine x_il2 (pc := 202) rfl rfl ?_
  refine x_al1 (pc := 204) rfl rfl ?_
  refine g_67_13 (pc := 205) (v := nI ((t ++ (0 :: eCn ba p s (kp g m (nn - k0) k0))).length)) rfl rfl h9.1 ?_
  refine x_il2 (pc := 208) rfl rfl ?_
  refine x_isubN (pc := 210) rfl ((by omega)) ?_
  refine x_const (pc := 211) (pc' := 212) (.int (nI 1)) rfl rfl rfl rfl ?_
  refine x_isubN (pc := 212) rfl ((by omega)) ?_
  refine as_72 (pc := 213) (q := t.length) rfl rfl (by omega) ?_
  refine x_ret (pc := 214) rfl rfl ?_
  have h10 := Tp_set (A' := va_up A9 54 (upd (A9 54) t.length (nI ((((t ++ (0 :: eCn ba p s (kp g m (nn - k0) k0))).length) - t.length) - 1)))) (I' := I9) (p := t.length) (v := (t ++ (0 :: eCn ba p s (kp g m (nn - k0) k0))).length - t.length - 1) h9 (by omega) rfl rfl
  rw [set_mid, show (t ++ (0 :: eCn ba p s (kp g m (nn - k0) k0))).length - t.length - 1 = (eCn ba p s (kp g m (nn - k0) k0)).length % 256 by omega] at h10
  rw [show (t ++ (0 :: eCn ba p s (kp g m (nn - k0) k0))).length - t.length - 1 = (eCn ba p s (kp g m (nn - k0) k0)).length % 256 by omega]
  exact kk I9 _ (Fr_cons (Fr_cons (Fr_cons (Fr_cons (Fr_cons (Fr_cons (Fr_cons (Fr_refl _ _) f1 (by decide)) f2 (by decide)) f3 (by decide)) f4 (by decide)) f5 (by decide)) f6 (by decide)) f9 (by decide)) (Fr_u (Fr_cons (Fr_cons (Fr_cons (Fr_cons (Fr_cons (Fr_cons (Fr_cons (Fr_refl _ _) g1 (by decide)) g2 (by decide)) g3 (by decide)) g4 (by decide)) g5 (by decide)) g6 (by decide)) g9 (by decide)) (by decide)) h10
set_option maxRecDepth 100000 in
set_option maxHeartbeats 4000000 in
theorem l_127a_52 {nn m k0 bg : Nat} {ba p s : Int32} {g : Nat → R5} (hm : m < 16) (hnn : nn ≤ 4) (hk4 : k0 < 4) (hb0 : ∀ i, i < k0 → m / 2 ^ i % 2 ^ 1 = 0) (hb1 : ¬ m / 2 ^ k0 % 2 ^ 1 = 0) {Q : mO × mHp → Prop} : ∀ (z k : Nat) , (k + z = k0) → (mq 127 27 [some (.ref 67), some (.ref 70), some (.int (nI nn)), some (.int (nI m)), some (.int ba), some (.int p), some (.int s), some (.int (nI bg)), some (.int (nI k0)), some (.int (nI 0)), none] [] (hS n u I A J B mk sn L xs X) Q) → mq 127 12 [some (.ref 67), some (.ref 70), some (.int (nI nn)), some (.int (nI m)), some (.int ba), some (.int p), some (.int s), some (.int (nI bg)), some (.int (nI k)), some (.int (nI 0)), none] [] (hS n u I A J B mk sn L xs X) Q := by
  intro z
  induction z with
  | zero =>
    intro k  hz kk
    refine x_il1 (pc := 12) rfl rfl ?_
    refine x_il2 (pc := 13) rfl rfl ?_
    refine x_ishrV (pc := 15) (v := nI (m / 2 ^ k)) rfl (shrk hm (by omega)) ?_
    refine x_const (pc := 16) (pc' := 17) (.int (nI 1)) rfl rfl rfl rfl ?_
    refine x_iandV (pc := 17) (v := nI ((m / 2 ^ k) % 2 ^ 1)) rfl (pk_andN (lt32 hm) 1 (by decide)) ?_
    refine x_ifN_ne (pc := 18) (t := 27) rfl rfl (by omega) (fun c18 => ?_) (fun c18 => ?_)
    · rw [show k = k0 by omega]
      exact kk
    · exact absurd (show m / 2 ^ k0 % 2 ^ 1 = 0 by rw [← show k = k0 by omega]; exact c18) hb1
  | succ z ih =>
    intro k  hz kk
    refine x_il1 (pc := 12) rfl rfl ?_
    refine x_il2 (pc := 13) rfl rfl ?_
    refine x_ishrV (pc := 15) (v := nI (m / 2 ^ k)) rfl (shrk hm (by omega)) ?_
    refine x_const (pc := 16) (pc' := 17) (.int (nI 1)) rfl rfl rfl rfl ?_
    refine x_iandV (pc := 17) (v := nI ((m / 2 ^ k) % 2 ^ 1)) rfl (pk_andN (lt32 hm) 1 (by decide)) ?_
    refine x_ifN_ne (pc := 18) (t := 27) rfl rfl (by omega) (fun c18 => ?_) (fun c18 => ?_)
    · exact absurd (hb0 k (by omega)) c18
    · refine x_iincN (pc := 21) (c := 1) (ml' := [some (.ref 67), some (.ref 70), some (.int (nI nn)), some (.int (nI m)), some (.int ba), some (.int p), some (.int s), some (.int (nI bg)), some (.int (nI (k + 1))), some (.int (nI 0)), none]) rfl rfl rfl rfl ?_
      refine x_step (pc := 24) (pc' := 12) rfl rfl rfl rfl ?_
      exact ih (k + 1) (by omega) kk
set_option maxRecDepth 100000 in
set_option maxHeartbeats 4000000 in
theorem l_127b_52 {nn m k0 bg : Nat} {ba p s : Int32} {g : Nat → R5} (hm : m < 16) (hnn : nn ≤ 4) {Q : mO × mHp → Prop} : ∀ (z i : Nat) , (i + z = nn) → (mq 127 53 [some (.ref 67), some (.ref 70), some (.int (nI nn)), some (.int (nI m)), some (.int ba), some (.int p), some (.int s), some (.int (nI bg)), some (.int (nI k0)), some (.int (nI (bcn m nn))), some (.int (nI nn))] [] (hS n u I A J B mk sn L xs X) Q) → mq 127 30 [some (.ref 67), some (.ref 70), some (.int (nI nn)), some (.int (nI m)), some (.int ba), some (.int p), some (.int s), some (.int (nI bg)), some (.int (nI k0)), some (.int (nI (bcn m i))), some (.int (nI i))] [] (hS n u I A J B mk sn L xs X) Q := by
  intro z
  induction z with
  | zero =>
    intro i  hz kk
    refine x_il2 (pc := 30) rfl rfl ?_
    refine x_il1 (pc := 32) rfl rfl ?_
    refine x_cmpN_ge (pc := 33) (t := 53) rfl rfl (by omega) (by omega) (fun c33 => ?_) (fun c33 => ?_)
    · rw [show i = nn by omega]
      exact kk
    · omega
  | succ z ih =>
    intro i  hz kk
    refine x_il2 (pc := 30) rfl rfl ?_
    refine x_il1 (pc := 32) rfl rfl ?_
    refine x_cmpN_ge (pc := 33) (t := 53) rfl rfl (by omega) (by omega) (fun c33 => ?_) (fun c33 => ?_)
    · omega
    · refine x_il2 (pc := 36) rfl rfl ?_
      refine x_il1 (pc := 38) rfl rfl ?_
      refine x_il2 (pc := 39) rfl rfl ?_
      refine x_ishrV (pc := 41) (v := nI (m / 2 ^ i)) rfl (shrk hm (by omega)) ?_
      refine x_const (pc := 42) (pc' := 43) (.int (nI 1)) rfl rfl rfl rfl ?_
      refine x_iandV (pc := 43) (v := nI ((m / 2 ^ i) % 2 ^ 1)) rfl (pk_andN (lt32 hm) 1 (by decide)) ?_
      refine x_iaddN (pc := 44) (c := (bcn m i) + ((m / 2 ^ i) % 2 ^ 1)) rfl rfl ?_
      refine x_is2 (pc := 45) (ml' := [some (.ref 67), some (.ref 70), some (.int (nI nn)), some (.int (nI m)), some (.int ba), some (.int p), some (.int s), some (.int (nI bg)), some (.int (nI k0)), some (.int (nI ((bcn m i) + ((m / 2 ^ i) % 2 ^ 1)))), some (.int (nI i))]) rfl rfl ?_
      refine x_iincN (pc := 47) (c := 1) (ml' := [some (.ref 67), some (.ref 70), some (.int (nI nn)), some (.int (nI m)), some (.int ba), some (.int p), some (.int s), some (.int (nI bg)), some (.int (nI k0)), some (.int (nI ((bcn m i) + ((m / 2 ^ i) % 2 ^ 1)))), some (.int (nI (i + 1)))]) rfl rfl rfl rfl ?_
      refine x_step (pc := 50) (pc' := 30) rfl rfl rfl rfl ?_
      exact ih (i + 1) (by omega) kk
set_option maxRecDepth 100000 in
set_option maxHeartbeats 4000000 in
theorem l_127c_52 {nn m k0 bg : Nat} {ba p s : Int32} {g : Nat → R5} (hm : m < 16) (hnn : nn ≤ 4) {cn : Nat} (hk0 : k0 < nn) {Q : mO × mHp → Prop} : ∀ (z i : Nat) (t : List Nat) {I : Nat → Int32} {A : Nat → Nat → Int32}, (i + z = nn) → (Tp I A t) → (t.length + 21 * z < 580) → (MB 52 A g nn) → (∀ I' A', Fr [68] I I' → Fr [54] A A' → Tp I' A' (t ++ eRs (g k0) (kp g m z i)) → mq 127 198 [some (.ref 67), some (.ref 70), some (.int (nI nn)), some (.int (nI m)), some (.int ba), some (.int p), some (.int s), some (.int (nI bg)), some (.int (nI k0)), some (.int (nI cn)), some (.int (nI nn))] [] (hS n u I' A' J B mk sn L xs X) Q) → mq 127 101 [some (.ref 67), some (.ref 70), some (.int (nI nn)), some (.int (nI m)), some (.int ba), some (.int p), some (.int s), some (.int (nI bg)), some (.int (nI k0)), some (.int (nI cn)), some (.int (nI i))] [] (hS n u I A J B mk sn L xs X) Q := by
  intro z
  induction z with
  | zero =>
    intro i t I A hz hP hlt hM kk
    refine x_il2 (pc := 101) rfl rfl ?_
    refine x_il1 (pc := 103) rfl rfl ?_
    refine x_cmpN_ge (pc := 104) (t := 198) rfl rfl (by omega) (by omega) (fun c104 => ?_) (fun c104 => ?_)
    · rw [show i = nn by omega]
      refine kk I A (Fr_refl _ _) (Fr_refl _ _) ?_
      have e : t ++ eRs (g k0) (kp g m 0 i) = t := List.append_nil t
      rw [e]
      exact hP
    · omega
  | succ z ih =>
    intro i t I A hz hP hlt hM kk
    refine x_il2 (pc := 101) rfl rfl ?_
    refine x_il1 (pc := 103) rfl rfl ?_
    refine x_cmpN_ge (pc := 104) (t := 198) rfl rfl (by omega) (by omega) (fun c104 => ?_) (fun c104 => ?_)
    · omega
    · refine x_il1 (pc := 107) rfl rfl ?_
      refine x_il2 (pc := 108) rfl rfl ?_
      refine x_ishrV (pc := 110) (v := nI (m / 2 ^ i)) rfl (shrk hm (by omega)) ?_
      refine x_const (pc := 111) (pc' := 112) (.int (nI 1)) rfl rfl rfl rfl ?_
      refine x_iandV (pc := 112) (v := nI ((m / 2 ^ i) % 2 ^ 1)) rfl (pk_andN (lt32 hm) 1 (by decide)) ?_
      refine x_ifN_ne (pc := 113) (t := 119) rfl rfl (by omega) (fun c113 => ?_) (fun c113 => ?_)
      · refine x_al1 (pc := 119) rfl rfl ?_
        refine x_al1 (pc := 120) rfl rfl ?_
        refine x_il2 (pc := 121) rfl rfl ?_
        refine al_70 (pc := 123) (q := i) (v := (g i).1) rfl rfl (by omega) ((hM i (by omega)).1) ?_
        refine x_al1 (pc := 124) rfl rfl ?_
        refine x_il2 (pc := 125) rfl rfl ?_
        refine al_70 (pc := 127) (q := k0) (v := (g k0).1) rfl rfl (by omega) ((hM k0 (by omega)).1) ?_
        refine x_isubV (pc := 128) (v := nI (uN (((g i).1) - ((g k0).1)))) rfl ((nI_uN _).symm) ?_
        refine x_k (pc := 129) rfl rfl rfl ⟨Nat.le_of_ble_eq_true rfl, Nat.le_of_ble_eq_true rfl, Nat.le_of_ble_eq_true rfl⟩ rfl (k_129 (I := I) (A := A) (m := uN (((g i).1) - ((g k0).1))) (l := t) hP (by omega) (uN_lt _) (fun I1 A1 f1 g1 h1 => ?_))
        show mq 127 132 [some (.ref 67), some (.ref 70), some (.int (nI nn)), some (.int (nI m)), some (.int ba), some (.int p), some (.int s), some (.int (nI bg)), some (.int (nI k0)), some (.int (nI cn)), some (.int (nI i))] [] (hS n u I1 A1 J B mk sn L xs X) _
        obtain ⟨t1, ht1⟩ : ∃ x, x = t ++ vE 4 (uN (((g i).1) - ((g k0).1))) := ⟨_, rfl⟩
        rw [← ht1] at h1
        have hn1 : t1.length ≤ t.length + 5 := by rw [ht1]; have := vE_len 4 (uN (((g i).1) - ((g k0).1))); simp; omega
        refine x_al1 (pc := 132) rfl rfl ?_
        refine x_al1 (pc := 133) rfl rfl ?_
        refine x_const (pc := 134) (pc' := 135) (.int (nI 4)) rfl rfl rfl rfl ?_
        refine x_il2 (pc := 135) rfl rfl ?_
        refine x_iaddN (pc := 137) (c := 4 + i) rfl rfl ?_
        refine al_70 (pc := 138) (q := 4 + i) (v := (g i).2.1) rfl rfl (by omega) (show _ = _ from by rw [(show Fr [54] A A1 from (Fr_cons (Fr_refl _ _) g1 (by decide))) 52 (by decide)]; exact (hM i (by omega)).2.1) ?_
        refine x_al1 (pc := 139) rfl rfl ?_
        refine x_const (pc := 140) (pc' := 141) (.int (nI 4)) rfl rfl rfl rfl ?_
        refine x_il2 (pc := 141) rfl rfl ?_
        refine x_iaddN (pc := 143) (c := 4 + k0) rfl rfl ?_
        refine al_70 (pc := 144) (q := 4 + k0) (v := (g k0).2.1) rfl rfl (by omega) (show _ = _ from by rw [(show Fr [54] A A1 from (Fr_cons (Fr_refl _ _) g1 (by decide))) 52 (by decide)]; exact (hM k0 (by omega)).2.1) ?_
        refine x_isub (pc := 145) rfl rfl ?_
        refine x_k (pc := 146) rfl rfl rfl ⟨Nat.le_of_ble_eq_true rfl, Nat.le_of_ble_eq_true rfl, Nat.le_of_ble_eq_true rfl⟩ rfl (k_130 (I := I1) (A := A1) (x := ((g i).2.1) - ((g k0).2.1)) (l := t1) h1 (by omega) (fun I2 A2 f2 g2 h2 => ?_))
        show mq 127 149 [some (.ref 67), some (.ref 70), some (.int (nI nn)), some (.int (nI m)), some (.int ba), some (.int p), some (.int s), some (.int (nI bg)), some (.int (nI k0)), some (.int (nI cn)), some (.int (nI i))] [] (hS n u I2 A2 J B mk sn L xs X) _
        obtain ⟨t2, ht2⟩ : ∃ x, x = t1 ++ vE 4 (zN (((g i).2.1) - ((g k0).2.1))) := ⟨_, rfl⟩
        rw [← ht2] at h2
        have hn2 : t2.length ≤ t1.length + 5 := by rw [ht2]; have := vE_len 4 (zN (((g i).2.1) - ((g k0).2.1))); simp; omega
        refine x_al1 (pc := 149) rfl rfl ?_
        refine x_al1 (pc := 150) rfl rfl ?_
        refine x_const (pc := 151) (pc' := 153) (.int (nI 8)) rfl rfl rfl rfl ?_
        refine x_il2 (pc := 153) rfl rfl ?_
        refine x_iaddN (pc := 155) (c := 8 + i) rfl rfl ?_
        refine al_70 (pc := 156) (q := 8 + i) (v := (g i).2.2.1) rfl rfl (by omega) (show _ = _ from by rw [(show Fr [54] A A2 from (Fr_cons (Fr_cons (Fr_refl _ _) g1 (by decide)) g2 (by decide))) 52 (by decide)]; exact (hM i (by omega)).2.2.1) ?_
        refine x_k (pc := 157) rfl rfl rfl ⟨Nat.le_of_ble_eq_true rfl, Nat.le_of_ble_eq_true rfl, Nat.le_of_ble_eq_true rfl⟩ rfl (k_130 (I := I2) (A := A2) (x := (g i).2.2.1) (l := t2) h2 (by omega) (fun I3 A3 f3 g3 h3 => ?_))
        show mq 127 160 [some (.ref 67), some (.ref 70), some (.int (nI nn)), some (.int (nI m)), some (.int ba), some (.int p), some (.int s), some (.int (nI bg)), some (.int (nI k0)), some (.int (nI cn)), some (.int (nI i))] [] (hS n u I3 A3 J B mk sn L xs X) _
        obtain ⟨t3, ht3⟩ : ∃ x, x = t2 ++ vE 4 (zN ((g i).2.2.1)) := ⟨_, rfl⟩
        rw [← ht3] at h3
        have hn3 : t3.length ≤ t2.length + 5 := by rw [ht3]; have := vE_len 4 (zN ((g i).2.2.1)); simp; omega
        refine x_al1 (pc := 160) rfl rfl ?_
        refine x_al1 (pc := 161) rfl rfl ?_
        refine x_const (pc := 162) (pc' := 164) (.int (nI 16)) rfl rfl rfl rfl ?_
        refine x_il2 (pc := 164) rfl rfl ?_
        refine x_iaddN (pc := 166) (c := 16 + i) rfl rfl ?_
        refine al_70 (pc := 167) (q := 16 + i) (v := (g i).2.2.2.2) rfl rfl (by omega) (show _ = _ from by rw [(show Fr [54] A A3 from (Fr_cons (Fr_cons (Fr_cons (Fr_refl _ _) g1 (by decide)) g2 (by decide)) g3 (by decide))) 52 (by decide)]; exact (hM i (by omega)).2.2.2.2) ?_
        refine x_k (pc := 168) rfl rfl rfl ⟨Nat.le_of_ble_eq_true rfl, Nat.le_of_ble_eq_true rfl, Nat.le_of_ble_eq_true rfl⟩ rfl (k_128 (I := I3) (A := A3) (x := (g i).2.2.2.2) (l := t3) h3 (by omega) (fun I4 A4 f4 g4 h4 => ?_))
        show mq 127 171 [some (.ref 67), some (.ref 70), some (.int (nI nn)), some (.int (nI m)), some (.int ba), some (.int p), some (.int s), some (.int (nI bg)), some (.int (nI k0)), some (.int (nI cn)), some (.int (nI i))] [] (hS n u I4 A4 J B mk sn L xs X) _
        obtain ⟨t4, ht4⟩ : ∃ x, x = t3 ++ [b8 ((g i).2.2.2.2)] := ⟨_, rfl⟩
        rw [← ht4] at h4
        have hn4 : t4.length ≤ t3.length + 1 := by rw [ht4]; simp
        refine x_al1 (pc := 171) rfl rfl ?_
        refine x_const (pc := 172) (pc' := 174) (.int (nI 16)) rfl rfl rfl rfl ?_
        refine x_il2 (pc := 174) rfl rfl ?_
        refine x_iaddN (pc := 176) (c := 16 + i) rfl rfl ?_
        refine al_70 (pc := 177) (q := 16 + i) (v := (g i).2.2.2.2) rfl rfl (by omega) (show _ = _ from by rw [(show Fr [54] A A4 from (Fr_cons (Fr_cons (Fr_cons (Fr_cons (Fr_refl _ _) g1 (by decide)) g2 (by decide)) g3 (by decide)) g4 (by decide))) 52 (by decide)]; exact (hM i (by omega)).2.2.2.2) ?_
        refine x_if_ne (pc := 178) (t := 192) rfl rfl rfl (fun c178 => ?_) (fun c178 => ?_)
        · refine x_iincN (pc := 192) (c := 1) (ml' := [some (.ref 67), some (.ref 70), some (.int (nI nn)), some (.int (nI m)), some (.int ba), some (.int p), some (.int s), some (.int (nI bg)), some (.int (nI k0)), some (.int (nI cn)), some (.int (nI (i + 1)))]) rfl rfl rfl rfl ?_
          refine x_step (pc := 195) (pc' := 101) rfl rfl rfl rfl ?_
          have ev : t ++ eRs (g k0) (kp g m (z + 1) i) = t4 ++ eRs (g k0) (kp g m z (i + 1)) := by
            rw [show kp g m (z + 1) i = g i :: kp g m z (i + 1) from if_neg c113]
            show t ++ (eR (g k0) (g i) ++ eRs (g k0) (kp g m z (i + 1))) = _
            unfold eR
            rw [if_neg c178]
            simp only [ht4, ht3, ht2, ht1, List.append_assoc, List.cons_append, List.nil_append, List.append_nil]
          rw [ev] at kk
          exact ih (i + 1) _ (I := I4) (A := A4) (by omega) h4 (by omega) (MB_fr hM (show Fr [54] A A4 from (Fr_cons (Fr_cons (Fr_cons (Fr_cons (Fr_refl _ _) g1 (by decide)) g2 (by decide)) g3 (by decide)) g4 (by decide))) (by decide)) (fun I9 A9 f9 g9 h9 => kk I9 A9 (Fr_cons (Fr_cons (Fr_cons (Fr_cons (Fr_cons (Fr_refl _ _) f1 (by decide)) f2 (by decide)) f3 (by decide)) f4 (by decide)) f9 (by decide)) (Fr_cons (Fr_cons (Fr_cons (Fr_cons (Fr_cons (Fr_refl _ _) g1 (by decide)) g2 (by decide)) g3 (by decide)) g4 (by decide)) g9 (by decide)) h9)
        · refine x_al1 (pc := 181) rfl rfl ?_
          refine x_al1 (pc := 182) rfl rfl ?_
          refine x_const (pc := 183) (pc' := 185) (.int (nI 12)) rfl rfl rfl rfl ?_
          refine x_il2 (pc := 185) rfl rfl ?_
          refine x_iaddN (pc := 187) (c := 12 + i) rfl rfl ?_
          refine al_70 (pc := 188) (q := 12 + i) (v := (g i).2.2.2.1) rfl rfl (by omega) (show _ = _ from by rw [(show Fr [54] A A4 from (Fr_cons (Fr_cons (Fr_cons (Fr_cons (Fr_refl _ _) g1 (by decide)) g2 (by decide)) g3 (by decide)) g4 (by decide))) 52 (by decide)]; exact (hM i (by omega)).2.2.2.1) ?_
          refine x_k (pc := 189) rfl rfl rfl ⟨Nat.le_of_ble_eq_true rfl, Nat.le_of_ble_eq_true rfl, Nat.le_of_ble_eq_true rfl⟩ rfl (k_130 (I := I4) (A := A4) (x := (g i).2.2.2.1) (l := t4) h4 (by omega) (fun I5 A5 f5 g5 h5 => ?_))
          show mq 127 192 [some (.ref 67), some (.ref 70), some (.int (nI nn)), some (.int (nI m)), some (.int ba), some (.int p), some (.int s), some (.int (nI bg)), some (.int (nI k0)), some (.int (nI cn)), some (.int (nI i))] [] (hS n u I5 A5 J B mk sn L xs X) _
          obtain ⟨t5, ht5⟩ : ∃ x, x = t4 ++ vE 4 (zN ((g i).2.2.2.1)) := ⟨_, rfl⟩
          rw [← ht5] at h5
          have hn5 : t5.length ≤ t4.length + 5 := by rw [ht5]; have := vE_len 4 (zN ((g i).2.2.2.1)); simp; omega
          refine x_iincN (pc := 192) (c := 1) (ml' := [some (.ref 67), some (.ref 70), some (.int (nI nn)), some (.int (nI m)), some (.int ba), some (.int p), some (.int s), some (.int (nI bg)), some (.int (nI k0)), some (.int (nI cn)), some (.int (nI (i + 1)))]) rfl rfl rfl rfl ?_
          refine x_step (pc := 195) (pc' := 101) rfl rfl rfl rfl ?_
          have ev : t ++ eRs (g k0) (kp g m (z + 1) i) = t5 ++ eRs (g k0) (kp g m z (i + 1)) := by
            rw [show kp g m (z + 1) i = g i :: kp g m z (i + 1) from if_neg c113]
            show t ++ (eR (g k0) (g i) ++ eRs (g k0) (kp g m z (i + 1))) = _
            unfold eR
            rw [if_pos c178]
            simp only [ht5, ht4, ht3, ht2, ht1, List.append_assoc, List.cons_append, List.nil_append, List.append_nil]
          rw [ev] at kk
          exact ih (i + 1) _ (I := I5) (A := A5) (by omega) h5 (by omega) (MB_fr hM (show Fr [54] A A5 from (Fr_cons (Fr_cons (Fr_cons (Fr_cons (Fr_cons (Fr_refl _ _) g1 (by decide)) g2 (by decide)) g3 (by decide)) g4 (by decide)) g5 (by decide))) (by decide)) (fun I9 A9 f9 g9 h9 => kk I9 A9 (Fr_cons (Fr_cons (Fr_cons (Fr_cons (Fr_cons (Fr_cons (Fr_refl _ _) f1 (by decide)) f2 (by decide)) f3 (by decide)) f4 (by decide)) f5 (by decide)) f9 (by decide)) (Fr_cons (Fr_cons (Fr_cons (Fr_cons (Fr_cons (Fr_cons (Fr_refl _ _) g1 (by decide)) g2 (by decide)) g3 (by decide)) g4 (by decide)) g5 (by decide)) g9 (by decide)) h9)
      · refine x_step (pc := 116) (pc' := 192) rfl rfl rfl rfl ?_
        refine x_iincN (pc := 192) (c := 1) (ml' := [some (.ref 67), some (.ref 70), some (.int (nI nn)), some (.int (nI m)), some (.int ba), some (.int p), some (.int s), some (.int (nI bg)), some (.int (nI k0)), some (.int (nI cn)), some (.int (nI (i + 1)))]) rfl rfl rfl rfl ?_
        refine x_step (pc := 195) (pc' := 101) rfl rfl rfl rfl ?_
        have ev : kp g m (z + 1) i = kp g m z (i + 1) := if_pos c113
        rw [ev] at kk
        exact ih (i + 1) t (by omega) hP (by omega) hM kk
set_option maxRecDepth 100000 in
set_option maxHeartbeats 4000000 in
theorem k_127_52 {nn m k0 : Nat} {ba p s : Int32} {g : Nat → R5} {t : List Nat} (hm : m < 16) (hnn : nn ≤ 4) (hk0 : k0 < nn) (hb0 : ∀ i, i < k0 → m / 2 ^ i % 2 ^ 1 = 0) (hb1 : ¬ m / 2 ^ k0 % 2 ^ 1 = 0) (hM : MB 52 A g nn) (hP : Tp I A t) (hlt : t.length + 21 * nn < 554) {Q : mO × mHp → Prop} (kk : ∀ I' A', Fr [68] I I' → Fr [54] A A' → Tp I' A' (t ++ eBt ba p s (kp g m (nn - k0) k0)) → Q (.inl none, hS n u I' A' J B mk sn L xs X)) : mq 127 0 [some (.ref 67), some (.ref 70), some (.int (nI nn)), some (.int (nI m)), some (.int ba), some (.int p), some (.int s), none, none, none, none] [] (hS n u I A J B mk sn L xs X) Q := by
  refine x_al1 (pc := 0) rfl rfl ?_
  refine g_67_13 (pc := 1) (v := nI t.length) rfl rfl hP.1 ?_
  refine x_is2 (pc := 4) (ml' := [some (.ref 67), some (.ref 70), some (.int (nI nn)), some (.int (nI m)), some (.int ba), some (.int p), some (.int s), some (.int (nI t.length)), none, none, none]) rfl rfl ?_
  refine x_const (pc := 6) (pc' := 7) (.int (nI 0)) rfl rfl rfl rfl ?_
  refine x_is2 (pc := 7) (ml' := [some (.ref 67), some (.ref 70), some (.int (nI nn)), some (.int (nI m)), some (.int ba), some (.int p), some (.int s), some (.int (nI t.length)), some (.int (nI 0)), none, none]) rfl rfl ?_
  refine x_const (pc := 9) (pc' := 10) (.int (nI 0)) rfl rfl rfl rfl ?_
  refine x_is2 (pc := 10) (ml' := [some (.ref 67), some (.ref 70), some (.int (nI nn)), some (.int (nI m)), some (.int ba), some (.int p), some (.int s), some (.int (nI t.length)), some (.int (nI 0)), some (.int (nI 0)), none]) rfl rfl ?_
  refine l_127a_52 (bg := t.length) (g := g) hm hnn (by omega) hb0 hb1 k0 0 (Nat.zero_add _) ?_
  refine x_const (pc := 27) (pc' := 28) (.int (nI 0)) rfl rfl rfl rfl ?_
  refine x_is2 (pc := 28) (ml' := [some (.ref 67), some (.ref 70), some (.int (nI nn)), some (.int (nI m)), some (.int ba), some (.int p), some (.int s), some (.int (nI t.length)), some (.int (nI k0)), some (.int (nI 0)), some (.int (nI 0))]) rfl rfl ?_
  refine l_127b_52 (bg := t.length) (g := g) (k0 := k0) hm hnn nn 0 (Nat.zero_add _) ?_
  refine x_al1 (pc := 53) rfl rfl ?_
  refine x_const (pc := 54) (pc' := 55) (.int (nI 0)) rfl rfl rfl rfl ?_
  refine x_k (pc := 55) rfl rfl rfl ⟨Nat.le_of_ble_eq_true rfl, Nat.le_of_ble_eq_true rfl, Nat.le_of_ble_eq_true rfl⟩ rfl (k_128 (I := I) (A := A) (x := nI 0) (l := t) hP (by omega) (fun I1 A1 f1 g1 h1 => ?_))
  show mq 127 58 [some (.ref 67), some (.ref 70), some (.int (nI nn)), some (.int (nI m)), some (.int ba), some (.int p), some (.int s), some (.int (nI t.length)), some (.int (nI k0)), some (.int (nI (bcn m nn))), some (.int (nI nn))] [] (hS n u I1 A1 J B mk sn L xs X) _
  obtain ⟨t1, ht1⟩ : ∃ x, x = t ++ [b8 (nI 0)] := ⟨_, rfl⟩
  rw [← ht1] at h1
  have hn1 : t1.length ≤ t.length + 1 := by rw [ht1]; simp
  refine x_al1 (pc := 58) rfl rfl ?_
  refine x_al1 (pc := 59) rfl rfl ?_
  refine x_il2 (pc := 60) rfl rfl ?_
  refine al_70 (pc := 62) (q := k0) (v := (g k0).1) rfl rfl (by omega) (show _ = _ from by rw [(show Fr [54] A A1 from (Fr_cons (Fr_refl _ _) g1 (by decide))) 52 (by decide)]; exact (hM k0 (by omega)).1) ?_
  refine x_il2 (pc := 63) rfl rfl ?_
  refine x_isubV (pc := 65) (v := nI (uN (((g k0).1) - ba))) rfl ((nI_uN _).symm) ?_
  refine x_k (pc := 66) rfl rfl rfl ⟨Nat.le_of_ble_eq_true rfl, Nat.le_of_ble_eq_true rfl, Nat.le_of_ble_eq_true rfl⟩ rfl (k_129 (I := I1) (A := A1) (m := uN (((g k0).1) - ba)) (l := t1) h1 (by omega) (uN_lt _) (fun I2 A2 f2 g2 h2 => ?_))
  show mq 127 69 [some (.ref 67), some (.ref 70), some (.int (nI nn)), some (.int (nI m)), some (.int ba), some (.int p), some (.int s), some (.int (nI t.length)), some (.int (nI k0)), some (.int (nI (bcn m nn))), some (.int (nI nn))] [] (hS n u I2 A2 J B mk sn L xs X) _
  obtain ⟨t2, ht2⟩ : ∃ x, x = t1 ++ vE 4 (uN (((g k0).1) - ba)) := ⟨_, rfl⟩
  rw [← ht2] at h2
  have hn2 : t2.length ≤ t1.length + 5 := by rw [ht2]; have := vE_len 4 (uN (((g k0).1) - ba)); simp; omega
  refine x_al1 (pc := 69) rfl rfl ?_
  refine x_al1 (pc := 70) rfl rfl ?_
  refine x_const (pc := 71) (pc' := 72) (.int (nI 4)) rfl rfl rfl rfl ?_
  refine x_il2 (pc := 72) rfl rfl ?_
  refine x_iaddN (pc := 74) (c := 4 + k0) rfl rfl ?_
  refine al_70 (pc := 75) (q := 4 + k0) (v := (g k0).2.1) rfl rfl (by omega) (show _ = _ from by rw [(show Fr [54] A A2 from (Fr_cons (Fr_cons (Fr_refl _ _) g1 (by decide)) g2 (by decide))) 52 (by decide)]; exact (hM k0 (by omega)).2.1) ?_
  refine x_k (pc := 76) rfl rfl rfl ⟨Nat.le_of_ble_eq_true rfl, Nat.le_of_ble_eq_true rfl, Nat.le_of_ble_eq_true rfl⟩ rfl (k_130 (I := I2) (A := A2) (x := (g k0).2.1) (l := t2) h2 (by omega) (fun I3 A3 f3 g3 h3 => ?_))
  show mq 127 79 [some (.ref 67), some (.ref 70), some (.int (nI nn)), some (.int (nI m)), some (.int ba), some (.int p), some (.int s), some (.int (nI t.length)), some (.int (nI k0)), some (.int (nI (bcn m nn))), some (.int (nI nn))] [] (hS n u I3 A3 J B mk sn L xs X) _
  obtain ⟨t3, ht3⟩ : ∃ x, x = t2 ++ vE 4 (zN ((g k0).2.1)) := ⟨_, rfl⟩
  rw [← ht3] at h3
  have hn3 : t3.length ≤ t2.length + 5 := by rw [ht3]; have := vE_len 4 (zN ((g k0).2.1)); simp; omega
  refine x_al1 (pc := 79) rfl rfl ?_
  refine x_il2 (pc := 80) rfl rfl ?_
  refine x_k (pc := 82) rfl rfl rfl ⟨Nat.le_of_ble_eq_true rfl, Nat.le_of_ble_eq_true rfl, Nat.le_of_ble_eq_true rfl⟩ rfl (k_128 (I := I3) (A := A3) (x := p) (l := t3) h3 (by omega) (fun I4 A4 f4 g4 h4 => ?_))
  show mq 127 85 [some (.ref 67), some (.ref 70), some (.int (nI nn)), some (.int (nI m)), some (.int ba), some (.int p), some (.int s), some (.int (nI t.length)), some (.int (nI k0)), some (.int (nI (bcn m nn))), some (.int (nI nn))] [] (hS n u I4 A4 J B mk sn L xs X) _
  obtain ⟨t4, ht4⟩ : ∃ x, x = t3 ++ [b8 (p)] := ⟨_, rfl⟩
  rw [← ht4] at h4
  have hn4 : t4.length ≤ t3.length + 1 := by rw [ht4]; simp
  refine x_al1 (pc := 85) rfl rfl ?_
  refine x_il2 (pc := 86) rfl rfl ?_
  refine x_top (y := nI (uN s)) ((nI_uN s).symm) ?_
  refine x_k (pc := 88) rfl rfl rfl ⟨Nat.le_of_ble_eq_true rfl, Nat.le_of_ble_eq_true rfl, Nat.le_of_ble_eq_true rfl⟩ rfl (k_129 (I := I4) (A := A4) (m := uN s) (l := t4) h4 (by omega) (uN_lt _) (fun I5 A5 f5 g5 h5 => ?_))
  show mq 127 91 [some (.ref 67), some (.ref 70), some (.int (nI nn)), some (.int (nI m)), some (.int ba), some (.int p), some (.int s), some (.int (nI t.length)), some (.int (nI k0)), some (.int (nI (bcn m nn))), some (.int (nI nn))] [] (hS n u I5 A5 J B mk sn L xs X) _
  obtain ⟨t5, ht5⟩ : ∃ x, x = t4 ++ vE 4 (uN s) := ⟨_, rfl⟩
  rw [← ht5] at h5
  have hn5 : t5.length ≤ t4.length + 5 := by rw [ht5]; have := vE_len 4 (uN s); simp; omega
  refine x_al1 (pc := 91) rfl rfl ?_
  refine x_il2 (pc := 92) rfl rfl ?_
  refine x_k (pc := 94) rfl rfl rfl ⟨Nat.le_of_ble_eq_true rfl, Nat.le_of_ble_eq_true rfl, Nat.le_of_ble_eq_true rfl⟩ rfl (k_128 (I := I5) (A := A5) (x := nI (bcn m nn)) (l := t5) h5 (by omega) (fun I6 A6 f6 g6 h6 => ?_))
  show mq 127 97 [some (.ref 67), some (.ref 70), some (.int (nI nn)), some (.int (nI m)), some (.int ba), some (.int p), some (.int s), some (.int (nI t.length)), some (.int (nI k0)), some (.int (nI (bcn m nn))), some (.int (nI nn))] [] (hS n u I6 A6 J B mk sn L xs X) _
  obtain ⟨t6, ht6⟩ : ∃ x, x = t5 ++ [b8 (nI (bcn m nn))] := ⟨_, rfl⟩
  rw [← ht6] at h6
  have hn6 : t6.length ≤ t5.length + 1 := by rw [ht6]; simp
  refine x_il2 (pc := 97) rfl rfl ?_
  refine x_is2 (pc := 99) (ml' := [some (.ref 67), some (.ref 70), some (.int (nI nn)), some (.int (nI m)), some (.int ba), some (.int p), some (.int s), some (.int (nI t.length)), some (.int (nI k0)), some (.int (nI (bcn m nn))), some (.int (nI k0))]) rfl rfl ?_
  refine l_127c_52 (I := I6) (A := A6) (bg := t.length) (p := p) (s := s) (ba := ba) (cn := bcn m nn) hm hnn hk0 (nn - k0) k0 t6 (by omega) h6 (by omega) (MB_fr hM (show Fr [54] A A6 from (Fr_cons (Fr_cons (Fr_cons (Fr_cons (Fr_cons (Fr_cons (Fr_refl _ _) g1 (by decide)) g2 (by decide)) g3 (by decide)) g4 (by decide)) g5 (by decide)) g6 (by decide))) (by decide)) (fun I9 A9 f9 g9 h9 => ?_)
  have e0 : gR (kp g m (nn - k0) k0) 0 = g k0 := by
    obtain ⟨z, hz⟩ : ∃ z, nn - k0 = z + 1 := ⟨nn - k0 - 1, by omega⟩
    rw [hz, show kp g m (z + 1) k0 = g k0 :: kp g m z (k0 + 1) from if_neg hb1]
    rfl
  have el : (kp g m (nn - k0) k0).length = bcn m nn := by
    have h5 := kp_len g m (nn - k0) k0
    rw [bcn_0 hb0, show k0 + (nn - k0) = nn by omega] at h5
    exact h5
  have e9 : t6 ++ eRs (g k0) (kp g m (nn - k0) k0) = t ++ (0 :: eCn ba p s (kp g m (nn - k0) k0)) := by
    unfold eCn
    rw [e0, el]
    simp only [ht6, ht5, ht4, ht3, ht2, ht1, b8_nI, List.append_assoc, List.cons_append, List.nil_append]
  rw [e9] at h9
  have hle := kp_le g m (nn - k0) k0
  have hcl := eCn_len ba p s (kp g m (nn - k0) k0)
  have hfl : (t ++ (0 :: eCn ba p s (kp g m (nn - k0) k0))).length = t.length + 1 + (eCn ba p s (kp g m (nn - k0) k0)).length := by simp; omega
  refine x_al1 (pc := 198) rfl rfl ?_
  refine g_67_12 (pc := 199) rfl rfl ?_
  refine x_il2 (pc := 202) rfl rfl ?_
  refine x_al1 (pc := 204) rfl rfl ?_
  refine g_67_13 (pc := 205) (v := nI ((t ++ (0 :: eCn ba p s (kp g m (nn - k0) k0))).length)) rfl rfl h9.1 ?_
  refine x_il2 (pc := 208) rfl rfl ?_
  refine x_isubN (pc := 210) rfl ((by omega)) ?_
  refine x_const (pc := 211) (pc' := 212) (.int (nI 1)) rfl rfl rfl rfl ?_
  refine x_isubN (pc := 212) rfl ((by omega)) ?_
  refine as_72 (pc := 213) (q := t.length) rfl rfl (by omega) ?_
  refine x_ret (pc := 214) rfl rfl ?_
  have h10 := Tp_set (A' := va_up A9 54 (upd (A9 54) t.length (nI ((((t ++ (0 :: eCn ba p s (kp g m (nn - k0) k0))).length) - t.length) - 1)))) (I' := I9) (p := t.length) (v := (t ++ (0 :: eCn ba p s (kp g m (nn - k0) k0))).length - t.length - 1) h9 (by omega) rfl rfl
  rw [set_mid, show (t ++ (0 :: eCn ba p s (kp g m (nn - k0) k0))).length - t.length - 1 = (eCn ba p s (kp g m (nn - k0) k0)).length % 256 by omega] at h10
  rw [show (t ++ (0 :: eCn ba p s (kp g m (nn - k0) k0))).length - t.length - 1 = (eCn ba p s (kp g m (nn - k0) k0)).length % 256 by omega]
  exact kk I9 _ (Fr_cons (Fr_cons (Fr_cons (Fr_cons (Fr_cons (Fr_cons (Fr_cons (Fr_refl _ _) f1 (by decide)) f2 (by decide)) f3 (by decide)) f4 (by decide)) f5 (by decide)) f6 (by decide)) f9 (by decide)) (Fr_u (Fr_cons (Fr_cons (Fr_cons (Fr_cons (Fr_cons (Fr_cons (Fr_cons (Fr_refl _ _) g1 (by decide)) g2 (by decide)) g3 (by decide)) g4 (by decide)) g5 (by decide)) g6 (by decide)) g9 (by decide)) (by decide)) h10
set_option maxRecDepth 100000 in
set_option maxHeartbeats 4000000 in
theorem l_127a_53 {nn m k0 bg : Nat} {ba p s : Int32} {g : Nat → R5} (hm : m < 16) (hnn : nn ≤ 4) (hk4 : k0 < 4) (hb0 : ∀ i, i < k0 → m / 2 ^ i % 2 ^ 1 = 0) (hb1 : ¬ m / 2 ^ k0 % 2 ^ 1 = 0) {Q : mO × mHp → Prop} : ∀ (z k : Nat) , (k + z = k0) → (mq 127 27 [some (.ref 67), some (.ref 71), some (.int (nI nn)), some (.int (nI m)), some (.int ba), some (.int p), some (.int s), some (.int (nI bg)), some (.int (nI k0)), some (.int (nI 0)), none] [] (hS n u I A J B mk sn L xs X) Q) → mq 127 12 [some (.ref 67), some (.ref 71), some (.int (nI nn)), some (.int (nI m)), some (.int ba), some (.int p), some (.int s), some (.int (nI bg)), some (.int (nI k)), some (.int (nI 0)), none] [] (hS n u I A J B mk sn L xs X) Q := by
  intro z
  induction z with
  | zero =>
    intro k  hz kk
    refine x_il1 (pc := 12) rfl rfl ?_
    refine x_il2 (pc := 13) rfl rfl ?_
    refine x_ishrV (pc := 15) (v := nI (m / 2 ^ k)) rfl (shrk hm (by omega)) ?_
    refine x_const (pc := 16) (pc' := 17) (.int (nI 1)) rfl rfl rfl rfl ?_
    refine x_iandV (pc := 17) (v := nI ((m / 2 ^ k) % 2 ^ 1)) rfl (pk_andN (lt32 hm) 1 (by decide)) ?_
    refine x_ifN_ne (pc := 18) (t := 27) rfl rfl (by omega) (fun c18 => ?_) (fun c18 => ?_)
    · rw [show k = k0 by omega]
      exact kk
    · exact absurd (show m / 2 ^ k0 % 2 ^ 1 = 0 by rw [← show k = k0 by omega]; exact c18) hb1
  | succ z ih =>
    intro k  hz kk
    refine x_il1 (pc := 12) rfl rfl ?_
    refine x_il2 (pc := 13) rfl rfl ?_
    refine x_ishrV (pc := 15) (v := nI (m / 2 ^ k)) rfl (shrk hm (by omega)) ?_
    refine x_const (pc := 16) (pc' := 17) (.int (nI 1)) rfl rfl rfl rfl ?_
    refine x_iandV (pc := 17) (v := nI ((m / 2 ^ k) % 2 ^ 1)) rfl (pk_andN (lt32 hm) 1 (by decide)) ?_
    refine x_ifN_ne (pc := 18) (t := 27) rfl rfl (by omega) (fun c18 => ?_) (fun c18 => ?_)
    · exact absurd (hb0 k (by omega)) c18
    · refine x_iincN (pc := 21) (c := 1) (ml' := [some (.ref 67), some (.ref 71), some (.int (nI nn)), some (.int (nI m)), some (.int ba), some (.int p), some (.int s), some (.int (nI bg)), some (.int (nI (k + 1))), some (.int (nI 0)), none]) rfl rfl rfl rfl ?_
      refine x_step (pc := 24) (pc' := 12) rfl rfl rfl rfl ?_
      exact ih (k + 1) (by omega) kk
set_option maxRecDepth 100000 in
set_option maxHeartbeats 4000000 in
theorem l_127b_53 {nn m k0 bg : Nat} {ba p s : Int32} {g : Nat → R5} (hm : m < 16) (hnn : nn ≤ 4) {Q : mO × mHp → Prop} : ∀ (z i : Nat) , (i + z = nn) → (mq 127 53 [some (.ref 67), some (.ref 71), some (.int (nI nn)), some (.int (nI m)), some (.int ba), some (.int p), some (.int s), some (.int (nI bg)), some (.int (nI k0)), some (.int (nI (bcn m nn))), some (.int (nI nn))] [] (hS n u I A J B mk sn L xs X) Q) → mq 127 30 [some (.ref 67), some (.ref 71), some (.int (nI nn)), some (.int (nI m)), some (.int ba), some (.int p), some (.int s), some (.int (nI bg)), some (.int (nI k0)), some (.int (nI (bcn m i))), some (.int (nI i))] [] (hS n u I A J B mk sn L xs X) Q := by
  intro z
  induction z with
  | zero =>
    intro i  hz kk
    refine x_il2 (pc := 30) rfl rfl ?_
    refine x_il1 (pc := 32) rfl rfl ?_
    refine x_cmpN_ge (pc := 33) (t := 53) rfl rfl (by omega) (by omega) (fun c33 => ?_) (fun c33 => ?_)
    · rw [show i = nn by omega]
      exact kk
    · omega
  | succ z ih =>
    intro i  hz kk
    refine x_il2 (pc := 30) rfl rfl ?_
    refine x_il1 (pc := 32) rfl rfl ?_
    refine x_cmpN_ge (pc := 33) (t := 53) rfl rfl (by omega) (by omega) (fun c33 => ?_) (fun c33 => ?_)
    · omega
    · refine x_il2 (pc := 36) rfl rfl ?_
      refine x_il1 (pc := 38) rfl rfl ?_
      refine x_il2 (pc := 39) rfl rfl ?_
      refine x_ishrV (pc := 41) (v := nI (m / 2 ^ i)) rfl (shrk hm (by omega)) ?_
      refine x_const (pc := 42) (pc' := 43) (.int (nI 1)) rfl rfl rfl rfl ?_
      refine x_iandV (pc := 43) (v := nI ((m / 2 ^ i) % 2 ^ 1)) rfl (pk_andN (lt32 hm) 1 (by decide)) ?_
      refine x_iaddN (pc := 44) (c := (bcn m i) + ((m / 2 ^ i) % 2 ^ 1)) rfl rfl ?_
      refine x_is2 (pc := 45) (ml' := [some (.ref 67), some (.ref 71), some (.int (nI nn)), some (.int (nI m)), some (.int ba), some (.int p), some (.int s), some (.int (nI bg)), some (.int (nI k0)), some (.int (nI ((bcn m i) + ((m / 2 ^ i) % 2 ^ 1)))), some (.int (nI i))]) rfl rfl ?_
      refine x_iincN (pc := 47) (c := 1) (ml' := [some (.ref 67), some (.ref 71), some (.int (nI nn)), some (.int (nI m)), some (.int ba), some (.int p), some (.int s), some (.int (nI bg)), some (.int (nI k0)), some (.int (nI ((bcn m i) + ((m / 2 ^ i) % 2 ^ 1)))), some (.int (nI (i + 1)))]) rfl rfl rfl rfl ?_
      refine x_step (pc := 50) (pc' := 30) rfl rfl rfl rfl ?_
      exact ih (i + 1) (by omega) kk
set_option maxRecDepth 100000 in
set_option maxHeartbeats 4000000 in
theorem l_127c_53 {nn m k0 bg : Nat} {ba p s : Int32} {g : Nat → R5} (hm : m < 16) (hnn : nn ≤ 4) {cn : Nat} (hk0 : k0 < nn) {Q : mO × mHp → Prop} : ∀ (z i : Nat) (t : List Nat) {I : Nat → Int32} {A : Nat → Nat → Int32}, (i + z = nn) → (Tp I A t) → (t.length + 21 * z < 580) → (MB 53 A g nn) → (∀ I' A', Fr [68] I I' → Fr [54] A A' → Tp I' A' (t ++ eRs (g k0) (kp g m z i)) → mq 127 198 [some (.ref 67), some (.ref 71), some (.int (nI nn)), some (.int (nI m)), some (.int ba), some (.int p), some (.int s), some (.int (nI bg)), some (.int (nI k0)), some (.int (nI cn)), some (.int (nI nn))] [] (hS n u I' A' J B mk sn L xs X) Q) → mq 127 101 [some (.ref 67), some (.ref 71), some (.int (nI nn)), some (.int (nI m)), some (.int ba), some (.int p), some (.int s), some (.int (nI bg)), some (.int (nI k0)), some (.int (nI cn)), some (.int (nI i))] [] (hS n u I A J B mk sn L xs X) Q := by
  intro z
  induction z with
  | zero =>
    intro i t I A hz hP hlt hM kk
    refine x_il2 (pc := 101) rfl rfl ?_
    refine x_il1 (pc := 103) rfl rfl ?_
    refine x_cmpN_ge (pc := 104) (t := 198) rfl rfl (by omega) (by omega) (fun c104 => ?_) (fun c104 => ?_)
    · rw [show i = nn by omega]
      refine kk I A (Fr_refl _ _) (Fr_refl _ _) ?_
      have e : t ++ eRs (g k0) (kp g m 0 i) = t := List.append_nil t
      rw [e]
      exact hP
    · omega
  | succ z ih =>
    intro i t I A hz hP hlt hM kk
    refine x_il2 (pc := 101) rfl rfl ?_
    refine x_il1 (pc := 103) rfl rfl ?_
    refine x_cmpN_ge (pc := 104) (t := 198) rfl rfl (by omega) (by omega) (fun c104 => ?_) (fun c104 => ?_)
    · omega
    · refine x_il1 (pc := 107) rfl rfl ?_
      refine x_il2 (pc := 108) rfl rfl ?_
      refine x_ishrV (pc := 110) (v := nI (m / 2 ^ i)) rfl (shrk hm (by omega)) ?_
      refine x_const (pc := 111) (pc' := 112) (.int (nI 1)) rfl rfl rfl rfl ?_
      refine x_iandV (pc := 112) (v := nI ((m / 2 ^ i) % 2 ^ 1)) rfl (pk_andN (lt32 hm) 1 (by decide)) ?_
      refine x_ifN_ne (pc := 113) (t := 119) rfl rfl (by omega) (fun c113 => ?_) (fun c113 => ?_)
      · refine x_al1 (pc := 119) rfl rfl ?_
        refine x_al1 (pc := 120) rfl rfl ?_
        refine x_il2 (pc := 121) rfl rfl ?_
        refine al_71 (pc := 123) (q := i) (v := (g i).1) rfl rfl (by omega) ((hM i (by omega)).1) ?_
        refine x_al1 (pc := 124) rfl rfl ?_
        refine x_il2 (pc := 125) rfl rfl ?_
        refine al_71 (pc := 127) (q := k0) (v := (g k0).1) rfl rfl (by omega) ((hM k0 (by omega)).1) ?_
        refine x_isubV (pc := 128) (v := nI (uN (((g i).1) - ((g k0).1)))) rfl ((nI_uN _).symm) ?_
        refine x_k (pc := 129) rfl rfl rfl ⟨Nat.le_of_ble_eq_true rfl, Nat.le_of_ble_eq_true rfl, Nat.le_of_ble_eq_true rfl⟩ rfl (k_129 (I := I) (A := A) (m := uN (((g i).1) - ((g k0).1))) (l := t) hP (by omega) (uN_lt _) (fun I1 A1 f1 g1 h1 => ?_))
        show mq 127 132 [some (.ref 67), some (.ref 71), some (.int (nI nn)), some (.int (nI m)), some (.int ba), some (.int p), some (.int s), some (.int (nI bg)), some (.int (nI k0)), some (.int (nI cn)), some (.int (nI i))] [] (hS n u I1 A1 J B mk sn L xs X) _
        obtain ⟨t1, ht1⟩ : ∃ x, x = t ++ vE 4 (uN (((g i).1) - ((g k0).1))) := ⟨_, rfl⟩
        rw [← ht1] at h1
        have hn1 : t1.length ≤ t.length + 5 := by rw [ht1]; have := vE_len 4 (uN (((g i).1) - ((g k0).1))); simp; omega
        refine x_al1 (pc := 132) rfl rfl ?_
        refine x_al1 (pc := 133) rfl rfl ?_
        refine x_const (pc := 134) (pc' := 135) (.int (nI 4)) rfl rfl rfl rfl ?_
        refine x_il2 (pc := 135) rfl rfl ?_
        refine x_iaddN (pc := 137) (c := 4 + i) rfl rfl ?_
        refine al_71 (pc := 138) (q := 4 + i) (v := (g i).2.1) rfl rfl (by omega) (show _ = _ from by rw [(show Fr [54] A A1 from (Fr_cons (Fr_refl _ _) g1 (by decide))) 53 (by decide)]; exact (hM i (by omega)).2.1) ?_
        refine x_al1 (pc := 139) rfl rfl ?_
        refine x_const (pc := 140) (pc' := 141) (.int (nI 4)) rfl rfl rfl rfl ?_
        refine x_il2 (pc := 141) rfl rfl ?_
        refine x_iaddN (pc := 143) (c := 4 + k0) rfl rfl ?_
        refine al_71 (pc := 144) (q := 4 + k0) (v := (g k0).2.1) rfl rfl (by omega) (show _ = _ from by rw [(show Fr [54] A A1 from (Fr_cons (Fr_refl _ _) g1 (by decide))) 53 (by decide)]; exact (hM k0 (by omega)).2.1) ?_
        refine x_isub (pc := 145) rfl rfl ?_
        refine x_k (pc := 146) rfl rfl rfl ⟨Nat.le_of_ble_eq_true rfl, Nat.le_of_ble_eq_true rfl, Nat.le_of_ble_eq_true rfl⟩ rfl (k_130 (I := I1) (A := A1) (x := ((g i).2.1) - ((g k0).2.1)) (l := t1) h1 (by omega) (fun I2 A2 f2 g2 h2 => ?_))
        show mq 127 149 [some (.ref 67), some (.ref 71), some (.int (nI nn)), some (.int (nI m)), some (.int ba), some (.int p), some (.int s), some (.int (nI bg)), some (.int (nI k0)), some (.int (nI cn)), some (.int (nI i))] [] (hS n u I2 A2 J B mk sn L xs X) _
        obtain ⟨t2, ht2⟩ : ∃ x, x = t1 ++ vE 4 (zN (((g i).2.1) - ((g k0).2.1))) := ⟨_, rfl⟩
        rw [← ht2] at h2
        have hn2 : t2.length ≤ t1.length + 5 := by rw [ht2]; have := vE_len 4 (zN (((g i).2.1) - ((g k0).2.1))); simp; omega
        refine x_al1 (pc := 149) rfl rfl ?_
        refine x_al1 (pc := 150) rfl rfl ?_
        refine x_const (pc := 151) (pc' := 153) (.int (nI 8)) rfl rfl rfl rfl ?_
        refine x_il2 (pc := 153) rfl rfl ?_
        refine x_iaddN (pc := 155) (c := 8 + i) rfl rfl ?_
        refine al_71 (pc := 156) (q := 8 + i) (v := (g i).2.2.1) rfl rfl (by omega) (show _ = _ from by rw [(show Fr [54] A A2 from (Fr_cons (Fr_cons (Fr_refl _ _) g1 (by decide)) g2 (by decide))) 53 (by decide)]; exact (hM i (by omega)).2.2.1) ?_
        refine x_k (pc := 157) rfl rfl rfl ⟨Nat.le_of_ble_eq_true rfl, Nat.le_of_ble_eq_true rfl, Nat.le_of_ble_eq_true rfl⟩ rfl (k_130 (I := I2) (A := A2) (x := (g i).2.2.1) (l := t2) h2 (by omega) (fun I3 A3 f3 g3 h3 => ?_))
        show mq 127 160 [some (.ref 67), some (.ref 71), some (.int (nI nn)), some (.int (nI m)), some (.int ba), some (.int p), some (.int s), some (.int (nI bg)), some (.int (nI k0)), some (.int (nI cn)), some (.int (nI i))] [] (hS n u I3 A3 J B mk sn L xs X) _
        obtain ⟨t3, ht3⟩ : ∃ x, x = t2 ++ vE 4 (zN ((g i).2.2.1)) := ⟨_, rfl⟩
        rw [← ht3] at h3
        have hn3 : t3.length ≤ t2.length + 5 := by rw [ht3]; have := vE_len 4 (zN ((g i).2.2.1)); simp; omega
        refine x_al1 (pc := 160) rfl rfl ?_
        refine x_al1 (pc := 161) rfl rfl ?_
        refine x_const (pc := 162) (pc' := 164) (.int (nI 16)) rfl rfl rfl rfl ?_
        refine x_il2 (pc := 164) rfl rfl ?_
        refine x_iaddN (pc := 166) (c := 16 + i) rfl rfl ?_
        refine al_71 (pc := 167) (q := 16 + i) (v := (g i).2.2.2.2) rfl rfl (by omega) (show _ = _ from by rw [(show Fr [54] A A3 from (Fr_cons (Fr_cons (Fr_cons (Fr_refl _ _) g1 (by decide)) g2 (by decide)) g3 (by decide))) 53 (by decide)]; exact (hM i (by omega)).2.2.2.2) ?_
        refine x_k (pc := 168) rfl rfl rfl ⟨Nat.le_of_ble_eq_true rfl, Nat.le_of_ble_eq_true rfl, Nat.le_of_ble_eq_true rfl⟩ rfl (k_128 (I := I3) (A := A3) (x := (g i).2.2.2.2) (l := t3) h3 (by omega) (fun I4 A4 f4 g4 h4 => ?_))
        show mq 127 171 [some (.ref 67), some (.ref 71), some (.int (nI nn)), some (.int (nI m)), some (.int ba), some (.int p), some (.int s), some (.int (nI bg)), some (.int (nI k0)), some (.int (nI cn)), some (.int (nI i))] [] (hS n u I4 A4 J B mk sn L xs X) _
        obtain ⟨t4, ht4⟩ : ∃ x, x = t3 ++ [b8 ((g i).2.2.2.2)] := ⟨_, rfl⟩
        rw [← ht4] at h4
        have hn4 : t4.length ≤ t3.length + 1 := by rw [ht4]; simp
        refine x_al1 (pc := 171) rfl rfl ?_
        refine x_const (pc := 172) (pc' := 174) (.int (nI 16)) rfl rfl rfl rfl ?_
        refine x_il2 (pc := 174) rfl rfl ?_
        refine x_iaddN (pc := 176) (c := 16 + i) rfl rfl ?_
        refine al_71 (pc := 177) (q := 16 + i) (v := (g i).2.2.2.2) rfl rfl (by omega) (show _ = _ from by rw [(show Fr [54] A A4 from (Fr_cons (Fr_cons (Fr_cons (Fr_cons (Fr_refl _ _) g1 (by decide)) g2 (by decide)) g3 (by decide)) g4 (by decide))) 53 (by decide)]; exact (hM i (by omega)).2.2.2.2) ?_
        refine x_if_ne (pc := 178) (t := 192) rfl rfl rfl (fun c178 => ?_) (fun c178 => ?_)
        · refine x_iincN (pc := 192) (c := 1) (ml' := [some (.ref 67), some (.ref 71), some (.int (nI nn)), some (.int (nI m)), some (.int ba), some (.int p), some (.int s), some (.int (nI bg)), some (.int (nI k0)), some (.int (nI cn)), some (.int (nI (i + 1)))]) rfl rfl rfl rfl ?_
          refine x_step (pc := 195) (pc' := 101) rfl rfl rfl rfl ?_
          have ev : t ++ eRs (g k0) (kp g m (z + 1) i) = t4 ++ eRs (g k0) (kp g m z (i + 1)) := by
            rw [show kp g m (z + 1) i = g i :: kp g m z (i + 1) from if_neg c113]
            show t ++ (eR (g k0) (g i) ++ eRs (g k0) (kp g m z (i + 1))) = _
            unfold eR
            rw [if_neg c178]
            simp only [ht4, ht3, ht2, ht1, List.append_assoc, List.cons_append, List.nil_append, List.append_nil]
          rw [ev] at kk
          exact ih (i + 1) _ (I := I4) (A := A4) (by omega) h4 (by omega) (MB_fr hM (show Fr [54] A A4 from (Fr_cons (Fr_cons (Fr_cons (Fr_cons (Fr_refl _ _) g1 (by decide)) g2 (by decide)) g3 (by decide)) g4 (by decide))) (by decide)) (fun I9 A9 f9 g9 h9 => kk I9 A9 (Fr_cons (Fr_cons (Fr_cons (Fr_cons (Fr_cons (Fr_refl _ _) f1 (by decide)) f2 (by decide)) f3 (by decide)) f4 (by decide)) f9 (by decide)) (Fr_cons (Fr_cons (Fr_cons (Fr_cons (Fr_cons (Fr_refl _ _) g1 (by decide)) g2 (by decide)) g3 (by decide)) g4 (by decide)) g9 (by decide)) h9)
        · refine x_al1 (pc := 181) rfl rfl ?_
          refine x_al1 (pc := 182) rfl rfl ?_
          refine x_const (pc := 183) (pc' := 185) (.int (nI 12)) rfl rfl rfl rfl ?_
          refine x_il2 (pc := 185) rfl rfl ?_
          refine x_iaddN (pc := 187) (c := 12 + i) rfl rfl ?_
          refine al_71 (pc := 188) (q := 12 + i) (v := (g i).2.2.2.1) rfl rfl (by omega) (show _ = _ from by rw [(show Fr [54] A A4 from (Fr_cons (Fr_cons (Fr_cons (Fr_cons (Fr_refl _ _) g1 (by decide)) g2 (by decide)) g3 (by decide)) g4 (by decide))) 53 (by decide)]; exact (hM i (by omega)).2.2.2.1) ?_
          refine x_k (pc := 189) rfl rfl rfl ⟨Nat.le_of_ble_eq_true rfl, Nat.le_of_ble_eq_true rfl, Nat.le_of_ble_eq_true rfl⟩ rfl (k_130 (I := I4) (A := A4) (x := (g i).2.2.2.1) (l := t4) h4 (by omega) (fun I5 A5 f5 g5 h5 => ?_))
          show mq 127 192 [some (.ref 67), some (.ref 71), some (.int (nI nn)), some (.int (nI m)), some (.int ba), some (.int p), some (.int s), some (.int (nI bg)), some (.int (nI k0)), some (.int (nI cn)), some (.int (nI i))] [] (hS n u I5 A5 J B mk sn L xs X) _
          obtain ⟨t5, ht5⟩ : ∃ x, x = t4 ++ vE 4 (zN ((g i).2.2.2.1)) := ⟨_, rfl⟩
          rw [← ht5] at h5
          have hn5 : t5.length ≤ t4.length + 5 := by rw [ht5]; have := vE_len 4 (zN ((g i).2.2.2.1)); simp; omega
          refine x_iincN (pc := 192) (c := 1) (ml' := [some (.ref 67), some (.ref 71), some (.int (nI nn)), some (.int (nI m)), some (.int ba), some (.int p), some (.int s), some (.int (nI bg)), some (.int (nI k0)), some (.int (nI cn)), some (.int (nI (i + 1)))]) rfl rfl rfl rfl ?_
          refine x_step (pc := 195) (pc' := 101) rfl rfl rfl rfl ?_
          have ev : t ++ eRs (g k0) (kp g m (z + 1) i) = t5 ++ eRs (g k0) (kp g m z (i + 1)) := by
            rw [show kp g m (z + 1) i = g i :: kp g m z (i + 1) from if_neg c113]
            show t ++ (eR (g k0) (g i) ++ eRs (g k0) (kp g m z (i + 1))) = _
            unfold eR
            rw [if_pos c178]
            simp only [ht5, ht4, ht3, ht2, ht1, List.append_assoc, List.cons_append, List.nil_append, List.append_nil]
          rw [ev] at kk
          exact ih (i + 1) _ (I := I5) (A := A5) (by omega) h5 (by omega) (MB_fr hM (show Fr [54] A A5 from (Fr_cons (Fr_cons (Fr_cons (Fr_cons (Fr_cons (Fr_refl _ _) g1 (by decide)) g2 (by decide)) g3 (by decide)) g4 (by decide)) g5 (by decide))) (by decide)) (fun I9 A9 f9 g9 h9 => kk I9 A9 (Fr_cons (Fr_cons (Fr_cons (Fr_cons (Fr_cons (Fr_cons (Fr_refl _ _) f1 (by decide)) f2 (by decide)) f3 (by decide)) f4 (by decide)) f5 (by decide)) f9 (by decide)) (Fr_cons (Fr_cons (Fr_cons (Fr_cons (Fr_cons (Fr_cons (Fr_refl _ _) g1 (by decide)) g2 (by decide)) g3 (by decide)) g4 (by decide)) g5 (by decide)) g9 (by decide)) h9)
      · refine x_step (pc := 116) (pc' := 192) rfl rfl rfl rfl ?_
        refine x_iincN (pc := 192) (c := 1) (ml' := [some (.ref 67), some (.ref 71), some (.int (nI nn)), some (.int (nI m)), some (.int ba), some (.int p), some (.int s), some (.int (nI bg)), some (.int (nI k0)), some (.int (nI cn)), some (.int (nI (i + 1)))]) rfl rfl rfl rfl ?_
        refine x_step (pc := 195) (pc' := 101) rfl rfl rfl rfl ?_
        have ev : kp g m (z + 1) i = kp g m z (i + 1) := if_pos c113
        rw [ev] at kk
        exact ih (i + 1) t (by omega) hP (by omega) hM kk
set_option maxRecDepth 100000 in
set_option maxHeartbeats 4000000 in
theorem k_127_53 {nn m k0 : Nat} {ba p s : Int32} {g : Nat → R5} {t : List Nat} (hm : m < 16) (hnn : nn ≤ 4) (hk0 : k0 < nn) (hb0 : ∀ i, i < k0 → m / 2 ^ i % 2 ^ 1 = 0) (hb1 : ¬ m / 2 ^ k0 % 2 ^ 1 = 0) (hM : MB 53 A g nn) (hP : Tp I A t) (hlt : t.length + 21 * nn < 554) {Q : mO × mHp → Prop} (kk : ∀ I' A', Fr [68] I I' → Fr [54] A A' → Tp I' A' (t ++ eBt ba p s (kp g m (nn - k0) k0)) → Q (.inl none, hS n u I' A' J B mk sn L xs X)) : mq 127 0 [some (.ref 67), some (.ref 71), some (.int (nI nn)), some (.int (nI m)), some (.int ba), some (.int p), some (.int s), none, none, none, none] [] (hS n u I A J B mk sn L xs X) Q := by
  refine x_al1 (pc := 0) rfl rfl ?_
  refine g_67_13 (pc := 1) (v := nI t.length) rfl rfl hP.1 ?_
  refine x_is2 (pc := 4) (ml' := [some (.ref 67), some (.ref 71), some (.int (nI nn)), some (.int (nI m)), some (.int ba), some (.int p), some (.int s), some (.int (nI t.length)), none, none, none]) rfl rfl ?_
  refine x_const (pc := 6) (pc' := 7) (.int (nI 0)) rfl rfl rfl rfl ?_
  refine x_is2 (pc := 7) (ml' := [some (.ref 67), some (.ref 71), some (.int (nI nn)), some (.int (nI m)), some (.int ba), some (.int p), some (.int s), some (.int (nI t.length)), some (.int (nI 0)), none, none]) rfl rfl ?_
  refine x_const (pc := 9) (pc' := 10) (.int (nI 0)) rfl rfl rfl rfl ?_
  refine x_is2 (pc := 10) (ml' := [some (.ref 67), some (.ref 71), some (.int (nI nn)), some (.int (nI m)), some (.int ba), some (.int p), some (.int s), some (.int (nI t.length)), some (.int (nI 0)), some (.int (nI 0)), none]) rfl rfl ?_
  refine l_127a_53 (bg := t.length) (g := g) hm hnn (by omega) hb0 hb1 k0 0 (Nat.zero_add _) ?_
  refine x_const (pc := 27) (pc' := 28) (.int (nI 0)) rfl rfl rfl rfl ?_
  refine x_is2 (pc := 28) (ml' := [some (.ref 67), some (.ref 71), some (.int (nI nn)), some (.int (nI m)), some (.int ba), some (.int p), some (.int s), some (.int (nI t.length)), some (.int (nI k0)), some (.int (nI 0)), some (.int (nI 0))]) rfl rfl ?_
  refine l_127b_53 (bg := t.length) (g := g) (k0 := k0) hm hnn nn 0 (Nat.zero_add _) ?_
  refine x_al1 (pc := 53) rfl rfl ?_
  refine x_const (pc := 54) (pc' := 55) (.int (nI 0)) rfl rfl rfl rfl ?_
  refine x_k (pc := 55) rfl rfl rfl ⟨Nat.le_of_ble_eq_true rfl, Nat.le_of_ble_eq_true rfl, Nat.le_of_ble_eq_true rfl⟩ rfl (k_128 (I := I) (A := A) (x := nI 0) (l := t) hP (by omega) (fun I1 A1 f1 g1 h1 => ?_))
  show mq 127 58 [some (.ref 67), some (.ref 71), some (.int (nI nn)), some (.int (nI m)), some (.int ba), some (.int p), some (.int s), some (.int (nI t.length)), some (.int (nI k0)), some (.int (nI (bcn m nn))), some (.int (nI nn))] [] (hS n u I1 A1 J B mk sn L xs X) _
  obtain ⟨t1, ht1⟩ : ∃ x, x = t ++ [b8 (nI 0)] := ⟨_, rfl⟩
  rw [← ht1] at h1
  have hn1 : t1.length ≤ t.length + 1 := by rw [ht1]; simp
  refine x_al1 (pc := 58) rfl rfl ?_
  refine x_al1 (pc := 59) rfl rfl ?_
  refine x_il2 (pc := 60) rfl rfl ?_
  refine al_71 (pc := 62) (q := k0) (v := (g k0).1) rfl rfl (by omega) (show _ = _ from by rw [(show Fr [54] A A1 from (Fr_cons (Fr_refl _ _) g1 (by decide))) 53 (by decide)]; exact (hM k0 (by omega)).1) ?_
  refine x_il2 (pc := 63) rfl rfl ?_
  refine x_isubV (pc := 65) (v := nI (uN (((g k0).1) - ba))) rfl ((nI_uN _).symm) ?_
  refine x_k (pc := 66) rfl rfl rfl ⟨Nat.le_of_ble_eq_true rfl, Nat.le_of_ble_eq_true rfl, Nat.le_of_ble_eq_true rfl⟩ rfl (k_129 (I := I1) (A := A1) (m := uN (((g k0).1) - ba)) (l := t1) h1 (by omega) (uN_lt _) (fun I2 A2 f2 g2 h2 => ?_))
  show mq 127 69 [some (.ref 67), some (.ref 71), some (.int (nI nn)), some (.int (nI m)), some (.int ba), some (.int p), some (.int s), some (.int (nI t.length)), some (.int (nI k0)), some (.int (nI (bcn m nn))), some (.int (nI nn))] [] (hS n u I2 A2 J B mk sn L xs X) _
  obtain ⟨t2, ht2⟩ : ∃ x, x = t1 ++ vE 4 (uN (((g k0).1) - ba)) := ⟨_, rfl⟩
  rw [← ht2] at h2
  have hn2 : t2.length ≤ t1.length + 5 := by rw [ht2]; have := vE_len 4 (uN (((g k0).1) - ba)); simp; omega
  refine x_al1 (pc := 69) rfl rfl ?_
  refine x_al1 (pc := 70) rfl rfl ?_
  refine x_const (pc := 71) (pc' := 72) (.int (nI 4)) rfl rfl rfl rfl ?_
  refine x_il2 (pc := 72) rfl rfl ?_
  refine x_iaddN (pc := 74) (c := 4 + k0) rfl rfl ?_
  refine al_71 (pc := 75) (q := 4 + k0) (v := (g k0).2.1) rfl rfl (by omega) (show _ = _ from by rw [(show Fr [54] A A2 from (Fr_cons (Fr_cons (Fr_refl _ _) g1 (by decide)) g2 (by decide))) 53 (by decide)]; exact (hM k0 (by omega)).2.1) ?_
  refine x_k (pc := 76) rfl rfl rfl ⟨Nat.le_of_ble_eq_true rfl, Nat.le_of_ble_eq_true rfl, Nat.le_of_ble_eq_true rfl⟩ rfl (k_130 (I := I2) (A := A2) (x := (g k0).2.1) (l := t2) h2 (by omega) (fun I3 A3 f3 g3 h3 => ?_))
  show mq 127 79 [some (.ref 67), some (.ref 71), some (.int (nI nn)), some (.int (nI m)), some (.int ba), some (.int p), some (.int s), some (.int (nI t.length)), some (.int (nI k0)), some (.int (nI (bcn m nn))), some (.int (nI nn))] [] (hS n u I3 A3 J B mk sn L xs X) _
  obtain ⟨t3, ht3⟩ : ∃ x, x = t2 ++ vE 4 (zN ((g k0).2.1)) := ⟨_, rfl⟩
  rw [← ht3] at h3
  have hn3 : t3.length ≤ t2.length + 5 := by rw [ht3]; have := vE_len 4 (zN ((g k0).2.1)); simp; omega
  refine x_al1 (pc := 79) rfl rfl ?_
  refine x_il2 (pc := 80) rfl rfl ?_
  refine x_k (pc := 82) rfl rfl rfl ⟨Nat.le_of_ble_eq_true rfl, Nat.le_of_ble_eq_true rfl, Nat.le_of_ble_eq_true rfl⟩ rfl (k_128 (I := I3) (A := A3) (x := p) (l := t3) h3 (by omega) (fun I4 A4 f4 g4 h4 => ?_))
  show mq 127 85 [some (.ref 67), some (.ref 71), some (.int (nI nn)), some (.int (nI m)), some (.int ba), some (.int p), some (.int s), some (.int (nI t.length)), some (.int (nI k0)), some (.int (nI (bcn m nn))), some (.int (nI nn))] [] (hS n u I4 A4 J B mk sn L xs X) _
  obtain ⟨t4, ht4⟩ : ∃ x, x = t3 ++ [b8 (p)] := ⟨_, rfl⟩
  rw [← ht4] at h4
  have hn4 : t4.length ≤ t3.length + 1 := by rw [ht4]; simp
  refine x_al1 (pc := 85) rfl rfl ?_
  refine x_il2 (pc := 86) rfl rfl ?_
  refine x_top (y := nI (uN s)) ((nI_uN s).symm) ?_
  refine x_k (pc := 88) rfl rfl rfl ⟨Nat.le_of_ble_eq_true rfl, Nat.le_of_ble_eq_true rfl, Nat.le_of_ble_eq_true rfl⟩ rfl (k_129 (I := I4) (A := A4) (m := uN s) (l := t4) h4 (by omega) (uN_lt _) (fun I5 A5 f5 g5 h5 => ?_))
  show mq 127 91 [some (.ref 67), some (.ref 71), some (.int (nI nn)), some (.int (nI m)), some (.int ba), some (.int p), some (.int s), some (.int (nI t.length)), some (.int (nI k0)), some (.int (nI (bcn m nn))), some (.int (nI nn))] [] (hS n u I5 A5 J B mk sn L xs X) _
  obtain ⟨t5, ht5⟩ : ∃ x, x = t4 ++ vE 4 (uN s) := ⟨_, rfl⟩
  rw [← ht5] at h5
  have hn5 : t5.length ≤ t4.length + 5 := by rw [ht5]; have := vE_len 4 (uN s); simp; omega
  refine x_al1 (pc := 91) rfl rfl ?_
  refine x_il2 (pc := 92) rfl rfl ?_
  refine x_k (pc := 94) rfl rfl rfl ⟨Nat.le_of_ble_eq_true rfl, Nat.le_of_ble_eq_true rfl, Nat.le_of_ble_eq_true rfl⟩ rfl (k_128 (I := I5) (A := A5) (x := nI (bcn m nn)) (l := t5) h5 (by omega) (fun I6 A6 f6 g6 h6 => ?_))
  show mq 127 97 [some (.ref 67), some (.ref 71), some (.int (nI nn)), some (.int (nI m)), some (.int ba), some (.int p), some (.int s), some (.int (nI t.length)), some (.int (nI k0)), some (.int (nI (bcn m nn))), some (.int (nI nn))] [] (hS n u I6 A6 J B mk sn L xs X) _
  obtain ⟨t6, ht6⟩ : ∃ x, x = t5 ++ [b8 (nI (bcn m nn))] := ⟨_, rfl⟩
  rw [← ht6] at h6
  have hn6 : t6.length ≤ t5.length + 1 := by rw [ht6]; simp
  refine x_il2 (pc := 97) rfl rfl ?_
  refine x_is2 (pc := 99) (ml' := [some (.ref 67), some (.ref 71), some (.int (nI nn)), some (.int (nI m)), some (.int ba), some (.int p), some (.int s), some (.int (nI t.length)), some (.int (nI k0)), some (.int (nI (bcn m nn))), some (.int (nI k0))]) rfl rfl ?_
  refine l_127c_53 (I := I6) (A := A6) (bg := t.length) (p := p) (s := s) (ba := ba) (cn := bcn m nn) hm hnn hk0 (nn - k0) k0 t6 (by omega) h6 (by omega) (MB_fr hM (show Fr [54] A A6 from (Fr_cons (Fr_cons (Fr_cons (Fr_cons (Fr_cons (Fr_cons (Fr_refl _ _) g1 (by decide)) g2 (by decide)) g3 (by decide)) g4 (by decide)) g5 (by decide)) g6 (by decide))) (by decide)) (fun I9 A9 f9 g9 h9 => ?_)
  have e0 : gR (kp g m (nn - k0) k0) 0 = g k0 := by
    obtain ⟨z, hz⟩ : ∃ z, nn - k0 = z + 1 := ⟨nn - k0 - 1, by omega⟩
    rw [hz, show kp g m (z + 1) k0 = g k0 :: kp g m z (k0 + 1) from if_neg hb1]
    rfl
  have el : (kp g m (nn - k0) k0).length = bcn m nn := by
    have h5 := kp_len g m (nn - k0) k0
    rw [bcn_0 hb0, show k0 + (nn - k0) = nn by omega] at h5
    exact h5
  have e9 : t6 ++ eRs (g k0) (kp g m (nn - k0) k0) = t ++ (0 :: eCn ba p s (kp g m (nn - k0) k0)) := by
    unfold eCn
    rw [e0, el]
    simp only [ht6, ht5, ht4, ht3, ht2, ht1, b8_nI, List.append_assoc, List.cons_append, List.nil_append]
  rw [e9] at h9
  have hle := kp_le g m (nn - k0) k0
  have hcl := eCn_len ba p s (kp g m (nn - k0) k0)
  have hfl : (t ++ (0 :: eCn ba p s (kp g m (nn - k0) k0))).length = t.length + 1 + (eCn ba p s (kp g m (nn - k0) k0)).length := by simp; omega
  refine x_al1 (pc := 198) rfl rfl ?_
  refine g_67_12 (pc := 199) rfl rfl ?_
  refine x_il2 (pc := 202) rfl rfl ?_
  refine x_al1 (pc := 204) rfl rfl ?_
  refine g_67_13 (pc := 205) (v := nI ((t ++ (0 :: eCn ba p s (kp g m (nn - k0) k0))).length)) rfl rfl h9.1 ?_
  refine x_il2 (pc := 208) rfl rfl ?_
  refine x_isubN (pc := 210) rfl ((by omega)) ?_
  refine x_const (pc := 211) (pc' := 212) (.int (nI 1)) rfl rfl rfl rfl ?_
  refine x_isubN (pc := 212) rfl ((by omega)) ?_
  refine as_72 (pc := 213) (q := t.length) rfl rfl (by omega) ?_
  refine x_ret (pc := 214) rfl rfl ?_
  have h10 := Tp_set (A' := va_up A9 54 (upd (A9 54) t.length (nI ((((t ++ (0 :: eCn ba p s (kp g m (nn - k0) k0))).length) - t.length) - 1)))) (I' := I9) (p := t.length) (v := (t ++ (0 :: eCn ba p s (kp g m (nn - k0) k0))).length - t.length - 1) h9 (by omega) rfl rfl
  rw [set_mid, show (t ++ (0 :: eCn ba p s (kp g m (nn - k0) k0))).length - t.length - 1 = (eCn ba p s (kp g m (nn - k0) k0)).length % 256 by omega] at h10
  rw [show (t ++ (0 :: eCn ba p s (kp g m (nn - k0) k0))).length - t.length - 1 = (eCn ba p s (kp g m (nn - k0) k0)).length % 256 by omega]
  exact kk I9 _ (Fr_cons (Fr_cons (Fr_cons (Fr_cons (Fr_cons (Fr_cons (Fr_cons (Fr_refl _ _) f1 (by decide)) f2 (by decide)) f3 (by decide)) f4 (by decide)) f5 (by decide)) f6 (by decide)) f9 (by decide)) (Fr_u (Fr_cons (Fr_cons (Fr_cons (Fr_cons (Fr_cons (Fr_cons (Fr_cons (Fr_refl _ _) g1 (by decide)) g2 (by decide)) g3 (by decide)) g4 (by decide)) g5 (by decide)) g6 (by decide)) g9 (by decide)) (by decide)) h10
end S52
