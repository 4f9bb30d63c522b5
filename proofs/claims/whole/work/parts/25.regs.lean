/-! The rules of the picture: a register, a row of an array, a call. -/
/-- what a call goes on with -/
def mK (mi pc : Nat) (ml : mLs) (r : List Value) (Q : mO × mHp → Prop) : mO × mHp → Prop := fun o => match o with
  | (.inl v, hp') => mq mi (pc + 3) ml (v.toList ++ r) hp' Q
  | (.inr x, hp') => match mfind tbP (mPo tbP mi) (mcls hp' x) pc (mPh tbP mi) with
    | some t => mq mi t ml [.ref x] hp' Q
    | none => mPh tbP mi = [] ∧ Q (.inr x, hp')
section S25a
variable {mi pc : Nat} {ml : mLs} {st : List Value} {hp : mHp} {Q : mO × mHp → Prop}
theorem mq_k {v : Option Value} {hp' : mHp} (h : mq mi pc ml st hp (fun r => r = (.inl v, hp'))) (k : Q (.inl v, hp')) : mq mi pc ml st hp Q := mq_mono (fun r e => by rw [e]; exact k) h
theorem x_k {ins : Instr} {j : Nat} {as r : List Value} {ml2 : mLs} (hi : mPi tbP mi pc = some (ins, 3)) (e1 : mretv tbP mi ins st = none) (hc : mcall tbP (mPo tbP mi) ins st hp = some (j, as, r))
    (hr : (mPw tbP j).1 + 1 ≤ (mPw tbP mi).1 ∧ mwd r + (mPl tbP j + 11) + (mPw tbP j).2 ≤ (mPw tbP mi).2 ∧ (margs as).length ≤ mPl tbP j) (hm : ment (mPl tbP j) as = ml2)
    (hq : mq j 0 ml2 [] hp (mK mi pc ml r Q)) : mq mi pc ml st hp Q := by
  subst hm
  refine x_callX hi e1 hc hr hq (fun v hp' h => h) (fun x hp' h => ?_)
  exact h
theorem x_il1 {i : Fin 4} {x : Int32} (hi : mPi tbP mi pc = some (.iload_n i, 1)) (hg : mget ml i = some (.int x)) (k : mq mi (pc + 1) ml (.int x :: st) hp Q) : mq mi pc ml st hp Q :=
  x_step (pc' := pc + 1) (ml' := ml) (hp' := hp) hi rfl rfl (by simp only [mstep, mldI, hg]) k
theorem x_il2 {i : Nat} {x : Int32} (hi : mPi tbP mi pc = some (.iload i, 2)) (hg : mget ml i = some (.int x)) (k : mq mi (pc + 2) ml (.int x :: st) hp Q) : mq mi pc ml st hp Q :=
  x_step (pc' := pc + 2) (ml' := ml) (hp' := hp) hi rfl rfl (by simp only [mstep, mldI, hg]) k
theorem x_al1 {i : Fin 4} {x : Nat} (hi : mPi tbP mi pc = some (.aload_n i, 1)) (hg : mget ml i = some (.ref x)) (k : mq mi (pc + 1) ml (.ref x :: st) hp Q) : mq mi pc ml st hp Q :=
  x_step (pc' := pc + 1) (ml' := ml) (hp' := hp) hi rfl rfl (by simp only [mstep, mldA, hg]) k
theorem x_al2 {i : Nat} {x : Nat} (hi : mPi tbP mi pc = some (.aload i, 2)) (hg : mget ml i = some (.ref x)) (k : mq mi (pc + 2) ml (.ref x :: st) hp Q) : mq mi pc ml st hp Q :=
  x_step (pc' := pc + 2) (ml' := ml) (hp' := hp) hi rfl rfl (by simp only [mstep, mldA, hg]) k
theorem x_is1 {i : Fin 4} {x : Int32} {ml' : mLs} {r : List Value} (hi : mPi tbP mi pc = some (.istore_n i, 1)) (hg : mset1 ml i (.int x) = some ml') (k : mq mi (pc + 1) ml' r hp Q) : mq mi pc ml (.int x :: r) hp Q :=
  x_step (pc' := pc + 1) (ml' := ml') (hp' := hp) (st' := r) hi rfl rfl (by simp only [mstep, mstI, hg]) k
theorem x_is2 {i : Nat} {x : Int32} {ml' : mLs} {r : List Value} (hi : mPi tbP mi pc = some (.istore i, 2)) (hg : mset1 ml i (.int x) = some ml') (k : mq mi (pc + 2) ml' r hp Q) : mq mi pc ml (.int x :: r) hp Q :=
  x_step (pc' := pc + 2) (ml' := ml') (hp' := hp) (st' := r) hi rfl rfl (by simp only [mstep, mstI, hg]) k
theorem x_as1 {i : Fin 4} {x : Nat} {ml' : mLs} {r : List Value} (hi : mPi tbP mi pc = some (.astore_n i, 1)) (hg : mset1 ml i (.ref x) = some ml') (k : mq mi (pc + 1) ml' r hp Q) : mq mi pc ml (.ref x :: r) hp Q :=
  x_step (pc' := pc + 1) (ml' := ml') (hp' := hp) (st' := r) hi rfl rfl (by simp only [mstep, mstA, hg]) k
theorem x_as2 {i : Nat} {x : Nat} {ml' : mLs} {r : List Value} (hi : mPi tbP mi pc = some (.astore i, 2)) (hg : mset1 ml i (.ref x) = some ml') (k : mq mi (pc + 2) ml' r hp Q) : mq mi pc ml (.ref x :: r) hp Q :=
  x_step (pc' := pc + 2) (ml' := ml') (hp' := hp) (st' := r) hi rfl rfl (by simp only [mstep, mstA, hg]) k
theorem x_get {i a ci k : Nat} {fs : List Value} {v : Value} {r : List Value} (hi : mPi tbP mi pc = some (.getfield i, 3)) (hf : mPf tbP (mPo tbP mi) i = some (ci, k)) (ha : hp.2.2 a = .inr (ci, fs)) (hv : fs[k]? = some v) (kk : mq mi (pc + 3) ml (v :: r) hp Q) : mq mi pc ml (.ref a :: r) hp Q := by
  refine x_step (pc' := pc + 3) (ml' := ml) (st' := v :: r) (hp' := hp) hi rfl rfl ?_ kk
  show mgetf tbP (mPo tbP mi) i (pc + 3) ml _ hp = _
  simp only [mgetf, hf, ha, hv, if_pos]
theorem x_len {a m : Nat} {ty : FieldType} {y : _} {r : List Value} (hi : mPi tbP mi pc = some (.arraylength, 1)) (ha : hp.2.2 a = .inl (ty, m, y)) (hb : ty ≠ .boolean ∨ a = 0) (kk : mq mi (pc + 1) ml (.int (nI m) :: r) hp Q) : mq mi pc ml (.ref a :: r) hp Q := by
  refine x_step (pc' := pc + 1) (ml' := ml) (st' := .int (nI m) :: r) (hp' := hp) hi rfl rfl ?_ kk
  simp only [mstep, malen, ha]
  rw [if_pos hb]
  rfl
theorem x_ald2 {a m q : Nat} {f : Nat → Int32} {j : Int32} {r : List Value} (hi : mPi tbP mi pc = some (.iaload, 1)) (ha : hp.2.2 a = .inl (.int, m, .inl f)) (hj : j = nI q) (hq : q < m) (hm : m < 4096) (kk : mq mi (pc + 1) ml (.int (f q) :: r) hp Q) : mq mi pc ml (.int j :: .ref a :: r) hp Q := by
  subst hj
  refine x_iald hi rfl ha (mIn_nI hq (by omega)) ?_
  rw [nI_clamp (by omega)]
  exact kk
theorem x_put2 {n u : Nat} {l l' : List mC} {X : Nat → mC} {i a ci k : Nat} {fs : List Value} {v : Value} {r : List Value} (hi : mPi tbP mi pc = some (.putfield i, 3)) (hf : mPf tbP (mPo tbP mi) i = some (ci, k)) (ha : l[a]? = some (.inr (ci, fs))) (hok : k < fs.length ∧ mfit v (mPy tbP ci k) = true ∧ mPq tbP ci k = false) (hl : l.set a (.inr (ci, fs.set k v)) = l')
    (kk : mq mi (pc + 3) ml r (n, u, HPf l' X) Q) : mq mi pc ml (v :: .ref a :: r) (n, u, HPf l X) Q := by
  subst hl
  exact x_put hi rfl hf ha ⟨hok.1, hok.2.1, Or.inl hok.2.2⟩ kk
theorem x_ast2 {n u : Nat} {l l' : List mC} {X : Nat → mC} {a m q : Nat} {f : Nat → Int32} {j x : Int32} {r : List Value} (hi : mPi tbP mi pc = some (.iastore, 1)) (ha : l[a]? = some (.inl (.int, m, .inl f))) (hj : j = nI q) (hq : q < m) (hm : m < 4096) (hl : l.set a (.inl (.int, m, .inl (upd f q x))) = l')
    (kk : mq mi (pc + 1) ml r (n, u, HPf l' X) Q) : mq mi pc ml (.int x :: .int j :: .ref a :: r) (n, u, HPf l X) Q := by
  subst hl hj
  refine x_ast hi rfl ha (mIn_nI hq (by omega)) ?_
  rw [nI_clamp (by omega)]
  exact kk
end S25a
section S25b
variable {mi pc i : Nat} {ml : mLs} {r : List Value} {Q : mO × mHp → Prop} {n u : Nat} {I : Nat → Int32} {A : Nat → Nat → Int32} {J : Int64} {B : Nat → Int64} {mk sn L : Nat} {xs : Nat → Int32} {X : Nat → mC} {D : Nat → Nat}
theorem g_1_0 (hi : mPi tbP mi pc = some (.getfield i, 3)) (hf : mPf tbP (mPo tbP mi) i = some (0, 0)) (kk : mq mi (pc + 3) ml (.ref 2 :: r) (hS n u I A J B mk sn L xs X) Q) : mq mi pc ml (.ref 1 :: r) (hS n u I A J B mk sn L xs X) Q := x_get hi hf rfl rfl kk
theorem g_1_1 (hi : mPi tbP mi pc = some (.getfield i, 3)) (hf : mPf tbP (mPo tbP mi) i = some (0, 1)) (kk : mq mi (pc + 3) ml (.ref 4 :: r) (hS n u I A J B mk sn L xs X) Q) : mq mi pc ml (.ref 1 :: r) (hS n u I A J B mk sn L xs X) Q := x_get hi hf rfl rfl kk
theorem g_1_2 (hi : mPi tbP mi pc = some (.getfield i, 3)) (hf : mPf tbP (mPo tbP mi) i = some (0, 2)) (kk : mq mi (pc + 3) ml (.ref 12 :: r) (hS n u I A J B mk sn L xs X) Q) : mq mi pc ml (.ref 1 :: r) (hS n u I A J B mk sn L xs X) Q := x_get hi hf rfl rfl kk
theorem g_1_3 (hi : mPi tbP mi pc = some (.getfield i, 3)) (hf : mPf tbP (mPo tbP mi) i = some (0, 3)) (kk : mq mi (pc + 3) ml (.ref 33 :: r) (hS n u I A J B mk sn L xs X) Q) : mq mi pc ml (.ref 1 :: r) (hS n u I A J B mk sn L xs X) Q := x_get hi hf rfl rfl kk
theorem g_1_4 (hi : mPi tbP mi pc = some (.getfield i, 3)) (hf : mPf tbP (mPo tbP mi) i = some (0, 4)) (kk : mq mi (pc + 3) ml (.ref 34 :: r) (hS n u I A J B mk sn L xs X) Q) : mq mi pc ml (.ref 1 :: r) (hS n u I A J B mk sn L xs X) Q := x_get hi hf rfl rfl kk
theorem g_1_5 (hi : mPi tbP mi pc = some (.getfield i, 3)) (hf : mPf tbP (mPo tbP mi) i = some (0, 5)) (kk : mq mi (pc + 3) ml (.ref 40 :: r) (hS n u I A J B mk sn L xs X) Q) : mq mi pc ml (.ref 1 :: r) (hS n u I A J B mk sn L xs X) Q := x_get hi hf rfl rfl kk
theorem g_1_6 (hi : mPi tbP mi pc = some (.getfield i, 3)) (hf : mPf tbP (mPo tbP mi) i = some (0, 6)) (kk : mq mi (pc + 3) ml (.ref 42 :: r) (hS n u I A J B mk sn L xs X) Q) : mq mi pc ml (.ref 1 :: r) (hS n u I A J B mk sn L xs X) Q := x_get hi hf rfl rfl kk
theorem g_1_7 (hi : mPi tbP mi pc = some (.getfield i, 3)) (hf : mPf tbP (mPo tbP mi) i = some (0, 7)) (kk : mq mi (pc + 3) ml (.ref 49 :: r) (hS n u I A J B mk sn L xs X) Q) : mq mi pc ml (.ref 1 :: r) (hS n u I A J B mk sn L xs X) Q := x_get hi hf rfl rfl kk
theorem g_1_8 (hi : mPi tbP mi pc = some (.getfield i, 3)) (hf : mPf tbP (mPo tbP mi) i = some (0, 8)) (kk : mq mi (pc + 3) ml (.ref 51 :: r) (hS n u I A J B mk sn L xs X) Q) : mq mi pc ml (.ref 1 :: r) (hS n u I A J B mk sn L xs X) Q := x_get hi hf rfl rfl kk
theorem g_1_9 (hi : mPi tbP mi pc = some (.getfield i, 3)) (hf : mPf tbP (mPo tbP mi) i = some (0, 9)) (kk : mq mi (pc + 3) ml (.ref mk :: r) (hS n u I A J B mk sn L xs X) Q) : mq mi pc ml (.ref 1 :: r) (hS n u I A J B mk sn L xs X) Q := x_get hi hf rfl rfl kk
theorem p_1_9 {x : Nat} (hi : mPi tbP mi pc = some (.putfield i, 3)) (hf : mPf tbP (mPo tbP mi) i = some (0, 9)) (kk : mq mi (pc + 3) ml r (hS n u I A J B x sn L xs X) Q) : mq mi pc ml (.ref x :: .ref 1 :: r) (hS n u I A J B mk sn L xs X) Q :=
  x_put2 hi hf rfl ⟨Nat.le_of_ble_eq_true rfl, rfl, rfl⟩ rfl kk
theorem g_1_10 (hi : mPi tbP mi pc = some (.getfield i, 3)) (hf : mPf tbP (mPo tbP mi) i = some (0, 10)) (kk : mq mi (pc + 3) ml (.ref sn :: r) (hS n u I A J B mk sn L xs X) Q) : mq mi pc ml (.ref 1 :: r) (hS n u I A J B mk sn L xs X) Q := x_get hi hf rfl rfl kk
theorem p_1_10 {x : Nat} (hi : mPi tbP mi pc = some (.putfield i, 3)) (hf : mPf tbP (mPo tbP mi) i = some (0, 10)) (kk : mq mi (pc + 3) ml r (hS n u I A J B mk x L xs X) Q) : mq mi pc ml (.ref x :: .ref 1 :: r) (hS n u I A J B mk sn L xs X) Q :=
  x_put2 hi hf rfl ⟨Nat.le_of_ble_eq_true rfl, rfl, rfl⟩ rfl kk
theorem g_1_11 {v : Int32} (hi : mPi tbP mi pc = some (.getfield i, 3)) (hf : mPf tbP (mPo tbP mi) i = some (0, 11)) (hv : I 11 = v) (kk : mq mi (pc + 3) ml (.int v :: r) (hS n u I A J B mk sn L xs X) Q) : mq mi pc ml (.ref 1 :: r) (hS n u I A J B mk sn L xs X) Q := by
  subst hv
  exact x_get hi hf rfl rfl kk
theorem p_1_11 {x : Int32} (hi : mPi tbP mi pc = some (.putfield i, 3)) (hf : mPf tbP (mPo tbP mi) i = some (0, 11)) (kk : mq mi (pc + 3) ml r (hS n u (va_up I 11 x) A J B mk sn L xs X) Q) : mq mi pc ml (.int x :: .ref 1 :: r) (hS n u I A J B mk sn L xs X) Q :=
  x_put2 hi hf rfl ⟨Nat.le_of_ble_eq_true rfl, rfl, rfl⟩ rfl kk
theorem g_2_0 (hi : mPi tbP mi pc = some (.getfield i, 3)) (hf : mPf tbP (mPo tbP mi) i = some (1, 0)) (kk : mq mi (pc + 3) ml (.ref 3 :: r) (hS n u I A J B mk sn L xs X) Q) : mq mi pc ml (.ref 2 :: r) (hS n u I A J B mk sn L xs X) Q := x_get hi hf rfl rfl kk
theorem g_2_1 {v : Int32} (hi : mPi tbP mi pc = some (.getfield i, 3)) (hf : mPf tbP (mPo tbP mi) i = some (1, 1)) (hv : I 0 = v) (kk : mq mi (pc + 3) ml (.int v :: r) (hS n u I A J B mk sn L xs X) Q) : mq mi pc ml (.ref 2 :: r) (hS n u I A J B mk sn L xs X) Q := by
  subst hv
  exact x_get hi hf rfl rfl kk
theorem p_2_1 {x : Int32} (hi : mPi tbP mi pc = some (.putfield i, 3)) (hf : mPf tbP (mPo tbP mi) i = some (1, 1)) (hz : x = 0 ∨ x = 1) (kk : mq mi (pc + 3) ml r (hS n u (va_up I 0 x) A J B mk sn L xs X) Q) : mq mi pc ml (.int x :: .ref 2 :: r) (hS n u I A J B mk sn L xs X) Q :=
  x_put2 hi hf rfl ⟨Nat.le_of_ble_eq_true rfl, by simp [mfit, hz, show mPy tbP 1 1 = .boolean from rfl], rfl⟩ rfl kk
theorem g_2_2 {v : Int32} (hi : mPi tbP mi pc = some (.getfield i, 3)) (hf : mPf tbP (mPo tbP mi) i = some (1, 2)) (hv : I 1 = v) (kk : mq mi (pc + 3) ml (.int v :: r) (hS n u I A J B mk sn L xs X) Q) : mq mi pc ml (.ref 2 :: r) (hS n u I A J B mk sn L xs X) Q := by
  subst hv
  exact x_get hi hf rfl rfl kk
theorem p_2_2 {x : Int32} (hi : mPi tbP mi pc = some (.putfield i, 3)) (hf : mPf tbP (mPo tbP mi) i = some (1, 2)) (hz : x = 0 ∨ x = 1) (kk : mq mi (pc + 3) ml r (hS n u (va_up I 1 x) A J B mk sn L xs X) Q) : mq mi pc ml (.int x :: .ref 2 :: r) (hS n u I A J B mk sn L xs X) Q :=
  x_put2 hi hf rfl ⟨Nat.le_of_ble_eq_true rfl, by simp [mfit, hz, show mPy tbP 1 2 = .boolean from rfl], rfl⟩ rfl kk
theorem g_2_3 {v : Int32} (hi : mPi tbP mi pc = some (.getfield i, 3)) (hf : mPf tbP (mPo tbP mi) i = some (1, 3)) (hv : I 2 = v) (kk : mq mi (pc + 3) ml (.int v :: r) (hS n u I A J B mk sn L xs X) Q) : mq mi pc ml (.ref 2 :: r) (hS n u I A J B mk sn L xs X) Q := by
  subst hv
  exact x_get hi hf rfl rfl kk
theorem p_2_3 {x : Int32} (hi : mPi tbP mi pc = some (.putfield i, 3)) (hf : mPf tbP (mPo tbP mi) i = some (1, 3)) (kk : mq mi (pc + 3) ml r (hS n u (va_up I 2 x) A J B mk sn L xs X) Q) : mq mi pc ml (.int x :: .ref 2 :: r) (hS n u I A J B mk sn L xs X) Q :=
  x_put2 hi hf rfl ⟨Nat.le_of_ble_eq_true rfl, rfl, rfl⟩ rfl kk
theorem g_2_4 {v : Int32} (hi : mPi tbP mi pc = some (.getfield i, 3)) (hf : mPf tbP (mPo tbP mi) i = some (1, 4)) (hv : I 3 = v) (kk : mq mi (pc + 3) ml (.int v :: r) (hS n u I A J B mk sn L xs X) Q) : mq mi pc ml (.ref 2 :: r) (hS n u I A J B mk sn L xs X) Q := by
  subst hv
  exact x_get hi hf rfl rfl kk
theorem p_2_4 {x : Int32} (hi : mPi tbP mi pc = some (.putfield i, 3)) (hf : mPf tbP (mPo tbP mi) i = some (1, 4)) (kk : mq mi (pc + 3) ml r (hS n u (va_up I 3 x) A J B mk sn L xs X) Q) : mq mi pc ml (.int x :: .ref 2 :: r) (hS n u I A J B mk sn L xs X) Q :=
  x_put2 hi hf rfl ⟨Nat.le_of_ble_eq_true rfl, rfl, rfl⟩ rfl kk
theorem al_3 {q : Nat} {j v : Int32} (hi : mPi tbP mi pc = some (.iaload, 1)) (hj : j = nI q) (hq : q < 2048) (hv : A 0 q = v) (kk : mq mi (pc + 1) ml (.int v :: r) (hS n u I A J B mk sn L xs X) Q) : mq mi pc ml (.int j :: .ref 3 :: r) (hS n u I A J B mk sn L xs X) Q := by
  subst hv
  exact x_ald2 hi rfl hj hq (by decide) kk
theorem as_3 {q : Nat} {j x : Int32} (hi : mPi tbP mi pc = some (.iastore, 1)) (hj : j = nI q) (hq : q < 2048) (kk : mq mi (pc + 1) ml r (hS n u I (va_up A 0 (upd (A 0) q x)) J B mk sn L xs X) Q) : mq mi pc ml (.int x :: .int j :: .ref 3 :: r) (hS n u I A J B mk sn L xs X) Q :=
  x_ast2 hi rfl hj hq (by decide) rfl kk
theorem ln_3 (hi : mPi tbP mi pc = some (.arraylength, 1)) (kk : mq mi (pc + 1) ml (.int (nI 2048) :: r) (hS n u I A J B mk sn L xs X) Q) : mq mi pc ml (.ref 3 :: r) (hS n u I A J B mk sn L xs X) Q := x_len hi rfl (Or.inl (by decide)) kk
theorem g_4_0 (hi : mPi tbP mi pc = some (.getfield i, 3)) (hf : mPf tbP (mPo tbP mi) i = some (5, 0)) (kk : mq mi (pc + 3) ml (.ref 2 :: r) (hS n u I A J B mk sn L xs X) Q) : mq mi pc ml (.ref 4 :: r) (hS n u I A J B mk sn L xs X) Q := x_get hi hf rfl rfl kk
theorem g_4_1 (hi : mPi tbP mi pc = some (.getfield i, 3)) (hf : mPf tbP (mPo tbP mi) i = some (5, 1)) (kk : mq mi (pc + 3) ml (.ref 5 :: r) (hS n u I A J B mk sn L xs X) Q) : mq mi pc ml (.ref 4 :: r) (hS n u I A J B mk sn L xs X) Q := x_get hi hf rfl rfl kk
theorem g_4_2 {v : Int32} (hi : mPi tbP mi pc = some (.getfield i, 3)) (hf : mPf tbP (mPo tbP mi) i = some (5, 2)) (hv : I 4 = v) (kk : mq mi (pc + 3) ml (.int v :: r) (hS n u I A J B mk sn L xs X) Q) : mq mi pc ml (.ref 4 :: r) (hS n u I A J B mk sn L xs X) Q := by
  subst hv
  exact x_get hi hf rfl rfl kk
theorem p_4_2 {x : Int32} (hi : mPi tbP mi pc = some (.putfield i, 3)) (hf : mPf tbP (mPo tbP mi) i = some (5, 2)) (kk : mq mi (pc + 3) ml r (hS n u (va_up I 4 x) A J B mk sn L xs X) Q) : mq mi pc ml (.int x :: .ref 4 :: r) (hS n u I A J B mk sn L xs X) Q :=
  x_put2 hi hf rfl ⟨Nat.le_of_ble_eq_true rfl, rfl, rfl⟩ rfl kk
theorem g_4_3 {v : Int32} (hi : mPi tbP mi pc = some (.getfield i, 3)) (hf : mPf tbP (mPo tbP mi) i = some (5, 3)) (hv : I 5 = v) (kk : mq mi (pc + 3) ml (.int v :: r) (hS n u I A J B mk sn L xs X) Q) : mq mi pc ml (.ref 4 :: r) (hS n u I A J B mk sn L xs X) Q := by
  subst hv
  exact x_get hi hf rfl rfl kk
theorem p_4_3 {x : Int32} (hi : mPi tbP mi pc = some (.putfield i, 3)) (hf : mPf tbP (mPo tbP mi) i = some (5, 3)) (kk : mq mi (pc + 3) ml r (hS n u (va_up I 5 x) A J B mk sn L xs X) Q) : mq mi pc ml (.int x :: .ref 4 :: r) (hS n u I A J B mk sn L xs X) Q :=
  x_put2 hi hf rfl ⟨Nat.le_of_ble_eq_true rfl, rfl, rfl⟩ rfl kk
theorem g_4_4 {v : Int32} (hi : mPi tbP mi pc = some (.getfield i, 3)) (hf : mPf tbP (mPo tbP mi) i = some (5, 4)) (hv : I 6 = v) (kk : mq mi (pc + 3) ml (.int v :: r) (hS n u I A J B mk sn L xs X) Q) : mq mi pc ml (.ref 4 :: r) (hS n u I A J B mk sn L xs X) Q := by
  subst hv
  exact x_get hi hf rfl rfl kk
theorem p_4_4 {x : Int32} (hi : mPi tbP mi pc = some (.putfield i, 3)) (hf : mPf tbP (mPo tbP mi) i = some (5, 4)) (kk : mq mi (pc + 3) ml r (hS n u (va_up I 6 x) A J B mk sn L xs X) Q) : mq mi pc ml (.int x :: .ref 4 :: r) (hS n u I A J B mk sn L xs X) Q :=
  x_put2 hi hf rfl ⟨Nat.le_of_ble_eq_true rfl, rfl, rfl⟩ rfl kk
theorem g_4_5 {v : Int32} (hi : mPi tbP mi pc = some (.getfield i, 3)) (hf : mPf tbP (mPo tbP mi) i = some (5, 5)) (hv : I 7 = v) (kk : mq mi (pc + 3) ml (.int v :: r) (hS n u I A J B mk sn L xs X) Q) : mq mi pc ml (.ref 4 :: r) (hS n u I A J B mk sn L xs X) Q := by
  subst hv
  exact x_get hi hf rfl rfl kk
theorem p_4_5 {x : Int32} (hi : mPi tbP mi pc = some (.putfield i, 3)) (hf : mPf tbP (mPo tbP mi) i = some (5, 5)) (kk : mq mi (pc + 3) ml r (hS n u (va_up I 7 x) A J B mk sn L xs X) Q) : mq mi pc ml (.int x :: .ref 4 :: r) (hS n u I A J B mk sn L xs X) Q :=
  x_put2 hi hf rfl ⟨Nat.le_of_ble_eq_true rfl, rfl, rfl⟩ rfl kk
theorem g_4_6 {v : Int32} (hi : mPi tbP mi pc = some (.getfield i, 3)) (hf : mPf tbP (mPo tbP mi) i = some (5, 6)) (hv : I 8 = v) (kk : mq mi (pc + 3) ml (.int v :: r) (hS n u I A J B mk sn L xs X) Q) : mq mi pc ml (.ref 4 :: r) (hS n u I A J B mk sn L xs X) Q := by
  subst hv
  exact x_get hi hf rfl rfl kk
theorem p_4_6 {x : Int32} (hi : mPi tbP mi pc = some (.putfield i, 3)) (hf : mPf tbP (mPo tbP mi) i = some (5, 6)) (kk : mq mi (pc + 3) ml r (hS n u (va_up I 8 x) A J B mk sn L xs X) Q) : mq mi pc ml (.int x :: .ref 4 :: r) (hS n u I A J B mk sn L xs X) Q :=
  x_put2 hi hf rfl ⟨Nat.le_of_ble_eq_true rfl, rfl, rfl⟩ rfl kk
theorem g_4_7 {v : Int32} (hi : mPi tbP mi pc = some (.getfield i, 3)) (hf : mPf tbP (mPo tbP mi) i = some (5, 7)) (hv : I 9 = v) (kk : mq mi (pc + 3) ml (.int v :: r) (hS n u I A J B mk sn L xs X) Q) : mq mi pc ml (.ref 4 :: r) (hS n u I A J B mk sn L xs X) Q := by
  subst hv
  exact x_get hi hf rfl rfl kk
theorem p_4_7 {x : Int32} (hi : mPi tbP mi pc = some (.putfield i, 3)) (hf : mPf tbP (mPo tbP mi) i = some (5, 7)) (kk : mq mi (pc + 3) ml r (hS n u (va_up I 9 x) A J B mk sn L xs X) Q) : mq mi pc ml (.int x :: .ref 4 :: r) (hS n u I A J B mk sn L xs X) Q :=
  x_put2 hi hf rfl ⟨Nat.le_of_ble_eq_true rfl, rfl, rfl⟩ rfl kk
theorem g_4_8 {v : Int32} (hi : mPi tbP mi pc = some (.getfield i, 3)) (hf : mPf tbP (mPo tbP mi) i = some (5, 8)) (hv : I 10 = v) (kk : mq mi (pc + 3) ml (.int v :: r) (hS n u I A J B mk sn L xs X) Q) : mq mi pc ml (.ref 4 :: r) (hS n u I A J B mk sn L xs X) Q := by
  subst hv
  exact x_get hi hf rfl rfl kk
theorem p_4_8 {x : Int32} (hi : mPi tbP mi pc = some (.putfield i, 3)) (hf : mPf tbP (mPo tbP mi) i = some (5, 8)) (hz : x = 0 ∨ x = 1) (kk : mq mi (pc + 3) ml r (hS n u (va_up I 10 x) A J B mk sn L xs X) Q) : mq mi pc ml (.int x :: .ref 4 :: r) (hS n u I A J B mk sn L xs X) Q :=
  x_put2 hi hf rfl ⟨Nat.le_of_ble_eq_true rfl, by simp [mfit, hz, show mPy tbP 5 8 = .boolean from rfl], rfl⟩ rfl kk
theorem g_5_0 (hi : mPi tbP mi pc = some (.getfield i, 3)) (hf : mPf tbP (mPo tbP mi) i = some (4, 0)) (kk : mq mi (pc + 3) ml (.ref 6 :: r) (hS n u I A J B mk sn L xs X) Q) : mq mi pc ml (.ref 5 :: r) (hS n u I A J B mk sn L xs X) Q := x_get hi hf rfl rfl kk
theorem g_5_1 {v : Int32} (hi : mPi tbP mi pc = some (.getfield i, 3)) (hf : mPf tbP (mPo tbP mi) i = some (4, 1)) (hv : I 20 = v) (kk : mq mi (pc + 3) ml (.int v :: r) (hS n u I A J B mk sn L xs X) Q) : mq mi pc ml (.ref 5 :: r) (hS n u I A J B mk sn L xs X) Q := by
  subst hv
  exact x_get hi hf rfl rfl kk
theorem p_5_1 {x : Int32} (hi : mPi tbP mi pc = some (.putfield i, 3)) (hf : mPf tbP (mPo tbP mi) i = some (4, 1)) (kk : mq mi (pc + 3) ml r (hS n u (va_up I 20 x) A J B mk sn L xs X) Q) : mq mi pc ml (.int x :: .ref 5 :: r) (hS n u I A J B mk sn L xs X) Q :=
  x_put2 hi hf rfl ⟨Nat.le_of_ble_eq_true rfl, rfl, rfl⟩ rfl kk
theorem g_5_2 {v : Int32} (hi : mPi tbP mi pc = some (.getfield i, 3)) (hf : mPf tbP (mPo tbP mi) i = some (4, 2)) (hv : I 21 = v) (kk : mq mi (pc + 3) ml (.int v :: r) (hS n u I A J B mk sn L xs X) Q) : mq mi pc ml (.ref 5 :: r) (hS n u I A J B mk sn L xs X) Q := by
  subst hv
  exact x_get hi hf rfl rfl kk
theorem p_5_2 {x : Int32} (hi : mPi tbP mi pc = some (.putfield i, 3)) (hf : mPf tbP (mPo tbP mi) i = some (4, 2)) (kk : mq mi (pc + 3) ml r (hS n u (va_up I 21 x) A J B mk sn L xs X) Q) : mq mi pc ml (.int x :: .ref 5 :: r) (hS n u I A J B mk sn L xs X) Q :=
  x_put2 hi hf rfl ⟨Nat.le_of_ble_eq_true rfl, rfl, rfl⟩ rfl kk
theorem g_6_0 (hi : mPi tbP mi pc = some (.getfield i, 3)) (hf : mPf tbP (mPo tbP mi) i = some (3, 0)) (kk : mq mi (pc + 3) ml (.ref 7 :: r) (hS n u I A J B mk sn L xs X) Q) : mq mi pc ml (.ref 6 :: r) (hS n u I A J B mk sn L xs X) Q := x_get hi hf rfl rfl kk
theorem g_6_1 (hi : mPi tbP mi pc = some (.getfield i, 3)) (hf : mPf tbP (mPo tbP mi) i = some (3, 1)) (kk : mq mi (pc + 3) ml (.ref 8 :: r) (hS n u I A J B mk sn L xs X) Q) : mq mi pc ml (.ref 6 :: r) (hS n u I A J B mk sn L xs X) Q := x_get hi hf rfl rfl kk
theorem g_6_2 (hi : mPi tbP mi pc = some (.getfield i, 3)) (hf : mPf tbP (mPo tbP mi) i = some (3, 2)) (kk : mq mi (pc + 3) ml (.ref 9 :: r) (hS n u I A J B mk sn L xs X) Q) : mq mi pc ml (.ref 6 :: r) (hS n u I A J B mk sn L xs X) Q := x_get hi hf rfl rfl kk
theorem g_6_3 (hi : mPi tbP mi pc = some (.getfield i, 3)) (hf : mPf tbP (mPo tbP mi) i = some (3, 3)) (kk : mq mi (pc + 3) ml (.ref 10 :: r) (hS n u I A J B mk sn L xs X) Q) : mq mi pc ml (.ref 6 :: r) (hS n u I A J B mk sn L xs X) Q := x_get hi hf rfl rfl kk
theorem g_6_4 (hi : mPi tbP mi pc = some (.getfield i, 3)) (hf : mPf tbP (mPo tbP mi) i = some (3, 4)) (kk : mq mi (pc + 3) ml (.ref 11 :: r) (hS n u I A J B mk sn L xs X) Q) : mq mi pc ml (.ref 6 :: r) (hS n u I A J B mk sn L xs X) Q := x_get hi hf rfl rfl kk
theorem g_6_5 {v : Int32} (hi : mPi tbP mi pc = some (.getfield i, 3)) (hf : mPf tbP (mPo tbP mi) i = some (3, 5)) (hv : I 22 = v) (kk : mq mi (pc + 3) ml (.int v :: r) (hS n u I A J B mk sn L xs X) Q) : mq mi pc ml (.ref 6 :: r) (hS n u I A J B mk sn L xs X) Q := by
  subst hv
  exact x_get hi hf rfl rfl kk
theorem p_6_5 {x : Int32} (hi : mPi tbP mi pc = some (.putfield i, 3)) (hf : mPf tbP (mPo tbP mi) i = some (3, 5)) (kk : mq mi (pc + 3) ml r (hS n u (va_up I 22 x) A J B mk sn L xs X) Q) : mq mi pc ml (.int x :: .ref 6 :: r) (hS n u I A J B mk sn L xs X) Q :=
  x_put2 hi hf rfl ⟨Nat.le_of_ble_eq_true rfl, rfl, rfl⟩ rfl kk
theorem al_7 {q : Nat} {j v : Int32} (hi : mPi tbP mi pc = some (.iaload, 1)) (hj : j = nI q) (hq : q < 4) (hv : A 10 q = v) (kk : mq mi (pc + 1) ml (.int v :: r) (hS n u I A J B mk sn L xs X) Q) : mq mi pc ml (.int j :: .ref 7 :: r) (hS n u I A J B mk sn L xs X) Q := by
  subst hv
  exact x_ald2 hi rfl hj hq (by decide) kk
theorem as_7 {q : Nat} {j x : Int32} (hi : mPi tbP mi pc = some (.iastore, 1)) (hj : j = nI q) (hq : q < 4) (kk : mq mi (pc + 1) ml r (hS n u I (va_up A 10 (upd (A 10) q x)) J B mk sn L xs X) Q) : mq mi pc ml (.int x :: .int j :: .ref 7 :: r) (hS n u I A J B mk sn L xs X) Q :=
  x_ast2 hi rfl hj hq (by decide) rfl kk
theorem ln_7 (hi : mPi tbP mi pc = some (.arraylength, 1)) (kk : mq mi (pc + 1) ml (.int (nI 4) :: r) (hS n u I A J B mk sn L xs X) Q) : mq mi pc ml (.ref 7 :: r) (hS n u I A J B mk sn L xs X) Q := x_len hi rfl (Or.inl (by decide)) kk
theorem al_8 {q : Nat} {j v : Int32} (hi : mPi tbP mi pc = some (.iaload, 1)) (hj : j = nI q) (hq : q < 4) (hv : A 11 q = v) (kk : mq mi (pc + 1) ml (.int v :: r) (hS n u I A J B mk sn L xs X) Q) : mq mi pc ml (.int j :: .ref 8 :: r) (hS n u I A J B mk sn L xs X) Q := by
  subst hv
  exact x_ald2 hi rfl hj hq (by decide) kk
theorem as_8 {q : Nat} {j x : Int32} (hi : mPi tbP mi pc = some (.iastore, 1)) (hj : j = nI q) (hq : q < 4) (kk : mq mi (pc + 1) ml r (hS n u I (va_up A 11 (upd (A 11) q x)) J B mk sn L xs X) Q) : mq mi pc ml (.int x :: .int j :: .ref 8 :: r) (hS n u I A J B mk sn L xs X) Q :=
  x_ast2 hi rfl hj hq (by decide) rfl kk
theorem ln_8 (hi : mPi tbP mi pc = some (.arraylength, 1)) (kk : mq mi (pc + 1) ml (.int (nI 4) :: r) (hS n u I A J B mk sn L xs X) Q) : mq mi pc ml (.ref 8 :: r) (hS n u I A J B mk sn L xs X) Q := x_len hi rfl (Or.inl (by decide)) kk
theorem al_9 {q : Nat} {j v : Int32} (hi : mPi tbP mi pc = some (.iaload, 1)) (hj : j = nI q) (hq : q < 4) (hv : A 12 q = v) (kk : mq mi (pc + 1) ml (.int v :: r) (hS n u I A J B mk sn L xs X) Q) : mq mi pc ml (.int j :: .ref 9 :: r) (hS n u I A J B mk sn L xs X) Q := by
  subst hv
  exact x_ald2 hi rfl hj hq (by decide) kk
theorem as_9 {q : Nat} {j x : Int32} (hi : mPi tbP mi pc = some (.iastore, 1)) (hj : j = nI q) (hq : q < 4) (kk : mq mi (pc + 1) ml r (hS n u I (va_up A 12 (upd (A 12) q x)) J B mk sn L xs X) Q) : mq mi pc ml (.int x :: .int j :: .ref 9 :: r) (hS n u I A J B mk sn L xs X) Q :=
  x_ast2 hi rfl hj hq (by decide) rfl kk
theorem ln_9 (hi : mPi tbP mi pc = some (.arraylength, 1)) (kk : mq mi (pc + 1) ml (.int (nI 4) :: r) (hS n u I A J B mk sn L xs X) Q) : mq mi pc ml (.ref 9 :: r) (hS n u I A J B mk sn L xs X) Q := x_len hi rfl (Or.inl (by decide)) kk
theorem al_10 {q : Nat} {j v : Int32} (hi : mPi tbP mi pc = some (.iaload, 1)) (hj : j = nI q) (hq : q < 4) (hv : A 13 q = v) (kk : mq mi (pc + 1) ml (.int v :: r) (hS n u I A J B mk sn L xs X) Q) : mq mi pc ml (.int j :: .ref 10 :: r) (hS n u I A J B mk sn L xs X) Q := by
  subst hv
  exact x_ald2 hi rfl hj hq (by decide) kk
theorem as_10 {q : Nat} {j x : Int32} (hi : mPi tbP mi pc = some (.iastore, 1)) (hj : j = nI q) (hq : q < 4) (kk : mq mi (pc + 1) ml r (hS n u I (va_up A 13 (upd (A 13) q x)) J B mk sn L xs X) Q) : mq mi pc ml (.int x :: .int j :: .ref 10 :: r) (hS n u I A J B mk sn L xs X) Q :=
  x_ast2 hi rfl hj hq (by decide) rfl kk
theorem ln_10 (hi : mPi tbP mi pc = some (.arraylength, 1)) (kk : mq mi (pc + 1) ml (.int (nI 4) :: r) (hS n u I A J B mk sn L xs X) Q) : mq mi pc ml (.ref 10 :: r) (hS n u I A J B mk sn L xs X) Q := x_len hi rfl (Or.inl (by decide)) kk
theorem al_11 {q : Nat} {j v : Int32} (hi : mPi tbP mi pc = some (.iaload, 1)) (hj : j = nI q) (hq : q < 4) (hv : A 14 q = v) (kk : mq mi (pc + 1) ml (.int v :: r) (hS n u I A J B mk sn L xs X) Q) : mq mi pc ml (.int j :: .ref 11 :: r) (hS n u I A J B mk sn L xs X) Q := by
  subst hv
  exact x_ald2 hi rfl hj hq (by decide) kk
theorem as_11 {q : Nat} {j x : Int32} (hi : mPi tbP mi pc = some (.iastore, 1)) (hj : j = nI q) (hq : q < 4) (kk : mq mi (pc + 1) ml r (hS n u I (va_up A 14 (upd (A 14) q x)) J B mk sn L xs X) Q) : mq mi pc ml (.int x :: .int j :: .ref 11 :: r) (hS n u I A J B mk sn L xs X) Q :=
  x_ast2 hi rfl hj hq (by decide) rfl kk
theorem ln_11 (hi : mPi tbP mi pc = some (.arraylength, 1)) (kk : mq mi (pc + 1) ml (.int (nI 4) :: r) (hS n u I A J B mk sn L xs X) Q) : mq mi pc ml (.ref 11 :: r) (hS n u I A J B mk sn L xs X) Q := x_len hi rfl (Or.inl (by decide)) kk
theorem g_13_0 (hi : mPi tbP mi pc = some (.getfield i, 3)) (hf : mPf tbP (mPo tbP mi) i = some (6, 0)) (kk : mq mi (pc + 3) ml (.int 0 :: r) (hS n u I A J B mk sn L xs X) Q) : mq mi pc ml (.ref 13 :: r) (hS n u I A J B mk sn L xs X) Q := x_get hi hf rfl rfl kk
theorem g_13_1 (hi : mPi tbP mi pc = some (.getfield i, 3)) (hf : mPf tbP (mPo tbP mi) i = some (6, 1)) (kk : mq mi (pc + 3) ml (.ref 14 :: r) (hS n u I A J B mk sn L xs X) Q) : mq mi pc ml (.ref 13 :: r) (hS n u I A J B mk sn L xs X) Q := x_get hi hf rfl rfl kk
theorem g_13_2 (hi : mPi tbP mi pc = some (.getfield i, 3)) (hf : mPf tbP (mPo tbP mi) i = some (6, 2)) (kk : mq mi (pc + 3) ml (.ref 15 :: r) (hS n u I A J B mk sn L xs X) Q) : mq mi pc ml (.ref 13 :: r) (hS n u I A J B mk sn L xs X) Q := x_get hi hf rfl rfl kk
theorem g_13_3 (hi : mPi tbP mi pc = some (.getfield i, 3)) (hf : mPf tbP (mPo tbP mi) i = some (6, 3)) (kk : mq mi (pc + 3) ml (.ref 16 :: r) (hS n u I A J B mk sn L xs X) Q) : mq mi pc ml (.ref 13 :: r) (hS n u I A J B mk sn L xs X) Q := x_get hi hf rfl rfl kk
theorem g_13_4 (hi : mPi tbP mi pc = some (.getfield i, 3)) (hf : mPf tbP (mPo tbP mi) i = some (6, 4)) (kk : mq mi (pc + 3) ml (.ref 17 :: r) (hS n u I A J B mk sn L xs X) Q) : mq mi pc ml (.ref 13 :: r) (hS n u I A J B mk sn L xs X) Q := x_get hi hf rfl rfl kk
theorem g_13_5 {v : Int32} (hi : mPi tbP mi pc = some (.getfield i, 3)) (hf : mPf tbP (mPo tbP mi) i = some (6, 5)) (hv : I 40 = v) (kk : mq mi (pc + 3) ml (.int v :: r) (hS n u I A J B mk sn L xs X) Q) : mq mi pc ml (.ref 13 :: r) (hS n u I A J B mk sn L xs X) Q := by
  subst hv
  exact x_get hi hf rfl rfl kk
theorem p_13_5 {x : Int32} (hi : mPi tbP mi pc = some (.putfield i, 3)) (hf : mPf tbP (mPo tbP mi) i = some (6, 5)) (kk : mq mi (pc + 3) ml r (hS n u (va_up I 40 x) A J B mk sn L xs X) Q) : mq mi pc ml (.int x :: .ref 13 :: r) (hS n u I A J B mk sn L xs X) Q :=
  x_put2 hi hf rfl ⟨Nat.le_of_ble_eq_true rfl, rfl, rfl⟩ rfl kk
theorem g_13_6 {v : Int32} (hi : mPi tbP mi pc = some (.getfield i, 3)) (hf : mPf tbP (mPo tbP mi) i = some (6, 6)) (hv : I 41 = v) (kk : mq mi (pc + 3) ml (.int v :: r) (hS n u I A J B mk sn L xs X) Q) : mq mi pc ml (.ref 13 :: r) (hS n u I A J B mk sn L xs X) Q := by
  subst hv
  exact x_get hi hf rfl rfl kk
theorem p_13_6 {x : Int32} (hi : mPi tbP mi pc = some (.putfield i, 3)) (hf : mPf tbP (mPo tbP mi) i = some (6, 6)) (kk : mq mi (pc + 3) ml r (hS n u (va_up I 41 x) A J B mk sn L xs X) Q) : mq mi pc ml (.int x :: .ref 13 :: r) (hS n u I A J B mk sn L xs X) Q :=
  x_put2 hi hf rfl ⟨Nat.le_of_ble_eq_true rfl, rfl, rfl⟩ rfl kk
theorem g_13_7 {v : Int32} (hi : mPi tbP mi pc = some (.getfield i, 3)) (hf : mPf tbP (mPo tbP mi) i = some (6, 7)) (hv : I 42 = v) (kk : mq mi (pc + 3) ml (.int v :: r) (hS n u I A J B mk sn L xs X) Q) : mq mi pc ml (.ref 13 :: r) (hS n u I A J B mk sn L xs X) Q := by
  subst hv
  exact x_get hi hf rfl rfl kk
theorem p_13_7 {x : Int32} (hi : mPi tbP mi pc = some (.putfield i, 3)) (hf : mPf tbP (mPo tbP mi) i = some (6, 7)) (kk : mq mi (pc + 3) ml r (hS n u (va_up I 42 x) A J B mk sn L xs X) Q) : mq mi pc ml (.int x :: .ref 13 :: r) (hS n u I A J B mk sn L xs X) Q :=
  x_put2 hi hf rfl ⟨Nat.le_of_ble_eq_true rfl, rfl, rfl⟩ rfl kk
theorem al_14 {q : Nat} {j v : Int32} (hi : mPi tbP mi pc = some (.iaload, 1)) (hj : j = nI q) (hq : q < 16) (hv : A 30 q = v) (kk : mq mi (pc + 1) ml (.int v :: r) (hS n u I A J B mk sn L xs X) Q) : mq mi pc ml (.int j :: .ref 14 :: r) (hS n u I A J B mk sn L xs X) Q := by
  subst hv
  exact x_ald2 hi rfl hj hq (by decide) kk
theorem as_14 {q : Nat} {j x : Int32} (hi : mPi tbP mi pc = some (.iastore, 1)) (hj : j = nI q) (hq : q < 16) (kk : mq mi (pc + 1) ml r (hS n u I (va_up A 30 (upd (A 30) q x)) J B mk sn L xs X) Q) : mq mi pc ml (.int x :: .int j :: .ref 14 :: r) (hS n u I A J B mk sn L xs X) Q :=
  x_ast2 hi rfl hj hq (by decide) rfl kk
theorem ln_14 (hi : mPi tbP mi pc = some (.arraylength, 1)) (kk : mq mi (pc + 1) ml (.int (nI 16) :: r) (hS n u I A J B mk sn L xs X) Q) : mq mi pc ml (.ref 14 :: r) (hS n u I A J B mk sn L xs X) Q := x_len hi rfl (Or.inl (by decide)) kk
theorem al_15 {q : Nat} {j v : Int32} (hi : mPi tbP mi pc = some (.iaload, 1)) (hj : j = nI q) (hq : q < 8) (hv : A 31 q = v) (kk : mq mi (pc + 1) ml (.int v :: r) (hS n u I A J B mk sn L xs X) Q) : mq mi pc ml (.int j :: .ref 15 :: r) (hS n u I A J B mk sn L xs X) Q := by
  subst hv
  exact x_ald2 hi rfl hj hq (by decide) kk
theorem as_15 {q : Nat} {j x : Int32} (hi : mPi tbP mi pc = some (.iastore, 1)) (hj : j = nI q) (hq : q < 8) (kk : mq mi (pc + 1) ml r (hS n u I (va_up A 31 (upd (A 31) q x)) J B mk sn L xs X) Q) : mq mi pc ml (.int x :: .int j :: .ref 15 :: r) (hS n u I A J B mk sn L xs X) Q :=
  x_ast2 hi rfl hj hq (by decide) rfl kk
theorem ln_15 (hi : mPi tbP mi pc = some (.arraylength, 1)) (kk : mq mi (pc + 1) ml (.int (nI 8) :: r) (hS n u I A J B mk sn L xs X) Q) : mq mi pc ml (.ref 15 :: r) (hS n u I A J B mk sn L xs X) Q := x_len hi rfl (Or.inl (by decide)) kk
theorem al_16 {q : Nat} {j v : Int32} (hi : mPi tbP mi pc = some (.iaload, 1)) (hj : j = nI q) (hq : q < 8) (hv : A 32 q = v) (kk : mq mi (pc + 1) ml (.int v :: r) (hS n u I A J B mk sn L xs X) Q) : mq mi pc ml (.int j :: .ref 16 :: r) (hS n u I A J B mk sn L xs X) Q := by
  subst hv
  exact x_ald2 hi rfl hj hq (by decide) kk
theorem as_16 {q : Nat} {j x : Int32} (hi : mPi tbP mi pc = some (.iastore, 1)) (hj : j = nI q) (hq : q < 8) (kk : mq mi (pc + 1) ml r (hS n u I (va_up A 32 (upd (A 32) q x)) J B mk sn L xs X) Q) : mq mi pc ml (.int x :: .int j :: .ref 16 :: r) (hS n u I A J B mk sn L xs X) Q :=
  x_ast2 hi rfl hj hq (by decide) rfl kk
theorem ln_16 (hi : mPi tbP mi pc = some (.arraylength, 1)) (kk : mq mi (pc + 1) ml (.int (nI 8) :: r) (hS n u I A J B mk sn L xs X) Q) : mq mi pc ml (.ref 16 :: r) (hS n u I A J B mk sn L xs X) Q := x_len hi rfl (Or.inl (by decide)) kk
theorem al_17 {q : Nat} {j v : Int32} (hi : mPi tbP mi pc = some (.iaload, 1)) (hj : j = nI q) (hq : q < 8) (hv : A 33 q = v) (kk : mq mi (pc + 1) ml (.int v :: r) (hS n u I A J B mk sn L xs X) Q) : mq mi pc ml (.int j :: .ref 17 :: r) (hS n u I A J B mk sn L xs X) Q := by
  subst hv
  exact x_ald2 hi rfl hj hq (by decide) kk
theorem as_17 {q : Nat} {j x : Int32} (hi : mPi tbP mi pc = some (.iastore, 1)) (hj : j = nI q) (hq : q < 8) (kk : mq mi (pc + 1) ml r (hS n u I (va_up A 33 (upd (A 33) q x)) J B mk sn L xs X) Q) : mq mi pc ml (.int x :: .int j :: .ref 17 :: r) (hS n u I A J B mk sn L xs X) Q :=
  x_ast2 hi rfl hj hq (by decide) rfl kk
theorem ln_17 (hi : mPi tbP mi pc = some (.arraylength, 1)) (kk : mq mi (pc + 1) ml (.int (nI 8) :: r) (hS n u I A J B mk sn L xs X) Q) : mq mi pc ml (.ref 17 :: r) (hS n u I A J B mk sn L xs X) Q := x_len hi rfl (Or.inl (by decide)) kk
theorem g_18_0 (hi : mPi tbP mi pc = some (.getfield i, 3)) (hf : mPf tbP (mPo tbP mi) i = some (6, 0)) (kk : mq mi (pc + 3) ml (.int 1 :: r) (hS n u I A J B mk sn L xs X) Q) : mq mi pc ml (.ref 18 :: r) (hS n u I A J B mk sn L xs X) Q := x_get hi hf rfl rfl kk
theorem g_18_1 (hi : mPi tbP mi pc = some (.getfield i, 3)) (hf : mPf tbP (mPo tbP mi) i = some (6, 1)) (kk : mq mi (pc + 3) ml (.ref 19 :: r) (hS n u I A J B mk sn L xs X) Q) : mq mi pc ml (.ref 18 :: r) (hS n u I A J B mk sn L xs X) Q := x_get hi hf rfl rfl kk
theorem g_18_2 (hi : mPi tbP mi pc = some (.getfield i, 3)) (hf : mPf tbP (mPo tbP mi) i = some (6, 2)) (kk : mq mi (pc + 3) ml (.ref 20 :: r) (hS n u I A J B mk sn L xs X) Q) : mq mi pc ml (.ref 18 :: r) (hS n u I A J B mk sn L xs X) Q := x_get hi hf rfl rfl kk
theorem g_18_3 (hi : mPi tbP mi pc = some (.getfield i, 3)) (hf : mPf tbP (mPo tbP mi) i = some (6, 3)) (kk : mq mi (pc + 3) ml (.ref 21 :: r) (hS n u I A J B mk sn L xs X) Q) : mq mi pc ml (.ref 18 :: r) (hS n u I A J B mk sn L xs X) Q := x_get hi hf rfl rfl kk
theorem g_18_4 (hi : mPi tbP mi pc = some (.getfield i, 3)) (hf : mPf tbP (mPo tbP mi) i = some (6, 4)) (kk : mq mi (pc + 3) ml (.ref 22 :: r) (hS n u I A J B mk sn L xs X) Q) : mq mi pc ml (.ref 18 :: r) (hS n u I A J B mk sn L xs X) Q := x_get hi hf rfl rfl kk
theorem g_18_5 {v : Int32} (hi : mPi tbP mi pc = some (.getfield i, 3)) (hf : mPf tbP (mPo tbP mi) i = some (6, 5)) (hv : I 43 = v) (kk : mq mi (pc + 3) ml (.int v :: r) (hS n u I A J B mk sn L xs X) Q) : mq mi pc ml (.ref 18 :: r) (hS n u I A J B mk sn L xs X) Q := by
  subst hv
  exact x_get hi hf rfl rfl kk
theorem p_18_5 {x : Int32} (hi : mPi tbP mi pc = some (.putfield i, 3)) (hf : mPf tbP (mPo tbP mi) i = some (6, 5)) (kk : mq mi (pc + 3) ml r (hS n u (va_up I 43 x) A J B mk sn L xs X) Q) : mq mi pc ml (.int x :: .ref 18 :: r) (hS n u I A J B mk sn L xs X) Q :=
  x_put2 hi hf rfl ⟨Nat.le_of_ble_eq_true rfl, rfl, rfl⟩ rfl kk
theorem g_18_6 {v : Int32} (hi : mPi tbP mi pc = some (.getfield i, 3)) (hf : mPf tbP (mPo tbP mi) i = some (6, 6)) (hv : I 44 = v) (kk : mq mi (pc + 3) ml (.int v :: r) (hS n u I A J B mk sn L xs X) Q) : mq mi pc ml (.ref 18 :: r) (hS n u I A J B mk sn L xs X) Q := by
  subst hv
  exact x_get hi hf rfl rfl kk
theorem p_18_6 {x : Int32} (hi : mPi tbP mi pc = some (.putfield i, 3)) (hf : mPf tbP (mPo tbP mi) i = some (6, 6)) (kk : mq mi (pc + 3) ml r (hS n u (va_up I 44 x) A J B mk sn L xs X) Q) : mq mi pc ml (.int x :: .ref 18 :: r) (hS n u I A J B mk sn L xs X) Q :=
  x_put2 hi hf rfl ⟨Nat.le_of_ble_eq_true rfl, rfl, rfl⟩ rfl kk
theorem g_18_7 {v : Int32} (hi : mPi tbP mi pc = some (.getfield i, 3)) (hf : mPf tbP (mPo tbP mi) i = some (6, 7)) (hv : I 45 = v) (kk : mq mi (pc + 3) ml (.int v :: r) (hS n u I A J B mk sn L xs X) Q) : mq mi pc ml (.ref 18 :: r) (hS n u I A J B mk sn L xs X) Q := by
  subst hv
  exact x_get hi hf rfl rfl kk
theorem p_18_7 {x : Int32} (hi : mPi tbP mi pc = some (.putfield i, 3)) (hf : mPf tbP (mPo tbP mi) i = some (6, 7)) (kk : mq mi (pc + 3) ml r (hS n u (va_up I 45 x) A J B mk sn L xs X) Q) : mq mi pc ml (.int x :: .ref 18 :: r) (hS n u I A J B mk sn L xs X) Q :=
  x_put2 hi hf rfl ⟨Nat.le_of_ble_eq_true rfl, rfl, rfl⟩ rfl kk
theorem al_19 {q : Nat} {j v : Int32} (hi : mPi tbP mi pc = some (.iaload, 1)) (hj : j = nI q) (hq : q < 16) (hv : A 34 q = v) (kk : mq mi (pc + 1) ml (.int v :: r) (hS n u I A J B mk sn L xs X) Q) : mq mi pc ml (.int j :: .ref 19 :: r) (hS n u I A J B mk sn L xs X) Q := by
  subst hv
  exact x_ald2 hi rfl hj hq (by decide) kk
theorem as_19 {q : Nat} {j x : Int32} (hi : mPi tbP mi pc = some (.iastore, 1)) (hj : j = nI q) (hq : q < 16) (kk : mq mi (pc + 1) ml r (hS n u I (va_up A 34 (upd (A 34) q x)) J B mk sn L xs X) Q) : mq mi pc ml (.int x :: .int j :: .ref 19 :: r) (hS n u I A J B mk sn L xs X) Q :=
  x_ast2 hi rfl hj hq (by decide) rfl kk
theorem ln_19 (hi : mPi tbP mi pc = some (.arraylength, 1)) (kk : mq mi (pc + 1) ml (.int (nI 16) :: r) (hS n u I A J B mk sn L xs X) Q) : mq mi pc ml (.ref 19 :: r) (hS n u I A J B mk sn L xs X) Q := x_len hi rfl (Or.inl (by decide)) kk
theorem al_20 {q : Nat} {j v : Int32} (hi : mPi tbP mi pc = some (.iaload, 1)) (hj : j = nI q) (hq : q < 8) (hv : A 35 q = v) (kk : mq mi (pc + 1) ml (.int v :: r) (hS n u I A J B mk sn L xs X) Q) : mq mi pc ml (.int j :: .ref 20 :: r) (hS n u I A J B mk sn L xs X) Q := by
  subst hv
  exact x_ald2 hi rfl hj hq (by decide) kk
theorem as_20 {q : Nat} {j x : Int32} (hi : mPi tbP mi pc = some (.iastore, 1)) (hj : j = nI q) (hq : q < 8) (kk : mq mi (pc + 1) ml r (hS n u I (va_up A 35 (upd (A 35) q x)) J B mk sn L xs X) Q) : mq mi pc ml (.int x :: .int j :: .ref 20 :: r) (hS n u I A J B mk sn L xs X) Q :=
  x_ast2 hi rfl hj hq (by decide) rfl kk
theorem ln_20 (hi : mPi tbP mi pc = some (.arraylength, 1)) (kk : mq mi (pc + 1) ml (.int (nI 8) :: r) (hS n u I A J B mk sn L xs X) Q) : mq mi pc ml (.ref 20 :: r) (hS n u I A J B mk sn L xs X) Q := x_len hi rfl (Or.inl (by decide)) kk
theorem al_21 {q : Nat} {j v : Int32} (hi : mPi tbP mi pc = some (.iaload, 1)) (hj : j = nI q) (hq : q < 8) (hv : A 36 q = v) (kk : mq mi (pc + 1) ml (.int v :: r) (hS n u I A J B mk sn L xs X) Q) : mq mi pc ml (.int j :: .ref 21 :: r) (hS n u I A J B mk sn L xs X) Q := by
  subst hv
  exact x_ald2 hi rfl hj hq (by decide) kk
theorem as_21 {q : Nat} {j x : Int32} (hi : mPi tbP mi pc = some (.iastore, 1)) (hj : j = nI q) (hq : q < 8) (kk : mq mi (pc + 1) ml r (hS n u I (va_up A 36 (upd (A 36) q x)) J B mk sn L xs X) Q) : mq mi pc ml (.int x :: .int j :: .ref 21 :: r) (hS n u I A J B mk sn L xs X) Q :=
  x_ast2 hi rfl hj hq (by decide) rfl kk
theorem ln_21 (hi : mPi tbP mi pc = some (.arraylength, 1)) (kk : mq mi (pc + 1) ml (.int (nI 8) :: r) (hS n u I A J B mk sn L xs X) Q) : mq mi pc ml (.ref 21 :: r) (hS n u I A J B mk sn L xs X) Q := x_len hi rfl (Or.inl (by decide)) kk
theorem al_22 {q : Nat} {j v : Int32} (hi : mPi tbP mi pc = some (.iaload, 1)) (hj : j = nI q) (hq : q < 8) (hv : A 37 q = v) (kk : mq mi (pc + 1) ml (.int v :: r) (hS n u I A J B mk sn L xs X) Q) : mq mi pc ml (.int j :: .ref 22 :: r) (hS n u I A J B mk sn L xs X) Q := by
  subst hv
  exact x_ald2 hi rfl hj hq (by decide) kk
theorem as_22 {q : Nat} {j x : Int32} (hi : mPi tbP mi pc = some (.iastore, 1)) (hj : j = nI q) (hq : q < 8) (kk : mq mi (pc + 1) ml r (hS n u I (va_up A 37 (upd (A 37) q x)) J B mk sn L xs X) Q) : mq mi pc ml (.int x :: .int j :: .ref 22 :: r) (hS n u I A J B mk sn L xs X) Q :=
  x_ast2 hi rfl hj hq (by decide) rfl kk
theorem ln_22 (hi : mPi tbP mi pc = some (.arraylength, 1)) (kk : mq mi (pc + 1) ml (.int (nI 8) :: r) (hS n u I A J B mk sn L xs X) Q) : mq mi pc ml (.ref 22 :: r) (hS n u I A J B mk sn L xs X) Q := x_len hi rfl (Or.inl (by decide)) kk
theorem g_23_0 (hi : mPi tbP mi pc = some (.getfield i, 3)) (hf : mPf tbP (mPo tbP mi) i = some (6, 0)) (kk : mq mi (pc + 3) ml (.int 2 :: r) (hS n u I A J B mk sn L xs X) Q) : mq mi pc ml (.ref 23 :: r) (hS n u I A J B mk sn L xs X) Q := x_get hi hf rfl rfl kk
theorem g_23_1 (hi : mPi tbP mi pc = some (.getfield i, 3)) (hf : mPf tbP (mPo tbP mi) i = some (6, 1)) (kk : mq mi (pc + 3) ml (.ref 24 :: r) (hS n u I A J B mk sn L xs X) Q) : mq mi pc ml (.ref 23 :: r) (hS n u I A J B mk sn L xs X) Q := x_get hi hf rfl rfl kk
theorem g_23_2 (hi : mPi tbP mi pc = some (.getfield i, 3)) (hf : mPf tbP (mPo tbP mi) i = some (6, 2)) (kk : mq mi (pc + 3) ml (.ref 25 :: r) (hS n u I A J B mk sn L xs X) Q) : mq mi pc ml (.ref 23 :: r) (hS n u I A J B mk sn L xs X) Q := x_get hi hf rfl rfl kk
theorem g_23_3 (hi : mPi tbP mi pc = some (.getfield i, 3)) (hf : mPf tbP (mPo tbP mi) i = some (6, 3)) (kk : mq mi (pc + 3) ml (.ref 26 :: r) (hS n u I A J B mk sn L xs X) Q) : mq mi pc ml (.ref 23 :: r) (hS n u I A J B mk sn L xs X) Q := x_get hi hf rfl rfl kk
theorem g_23_4 (hi : mPi tbP mi pc = some (.getfield i, 3)) (hf : mPf tbP (mPo tbP mi) i = some (6, 4)) (kk : mq mi (pc + 3) ml (.ref 27 :: r) (hS n u I A J B mk sn L xs X) Q) : mq mi pc ml (.ref 23 :: r) (hS n u I A J B mk sn L xs X) Q := x_get hi hf rfl rfl kk
theorem g_23_5 {v : Int32} (hi : mPi tbP mi pc = some (.getfield i, 3)) (hf : mPf tbP (mPo tbP mi) i = some (6, 5)) (hv : I 46 = v) (kk : mq mi (pc + 3) ml (.int v :: r) (hS n u I A J B mk sn L xs X) Q) : mq mi pc ml (.ref 23 :: r) (hS n u I A J B mk sn L xs X) Q := by
  subst hv
  exact x_get hi hf rfl rfl kk
theorem p_23_5 {x : Int32} (hi : mPi tbP mi pc = some (.putfield i, 3)) (hf : mPf tbP (mPo tbP mi) i = some (6, 5)) (kk : mq mi (pc + 3) ml r (hS n u (va_up I 46 x) A J B mk sn L xs X) Q) : mq mi pc ml (.int x :: .ref 23 :: r) (hS n u I A J B mk sn L xs X) Q :=
  x_put2 hi hf rfl ⟨Nat.le_of_ble_eq_true rfl, rfl, rfl⟩ rfl kk
theorem g_23_6 {v : Int32} (hi : mPi tbP mi pc = some (.getfield i, 3)) (hf : mPf tbP (mPo tbP mi) i = some (6, 6)) (hv : I 47 = v) (kk : mq mi (pc + 3) ml (.int v :: r) (hS n u I A J B mk sn L xs X) Q) : mq mi pc ml (.ref 23 :: r) (hS n u I A J B mk sn L xs X) Q := by
  subst hv
  exact x_get hi hf rfl rfl kk
theorem p_23_6 {x : Int32} (hi : mPi tbP mi pc = some (.putfield i, 3)) (hf : mPf tbP (mPo tbP mi) i = some (6, 6)) (kk : mq mi (pc + 3) ml r (hS n u (va_up I 47 x) A J B mk sn L xs X) Q) : mq mi pc ml (.int x :: .ref 23 :: r) (hS n u I A J B mk sn L xs X) Q :=
  x_put2 hi hf rfl ⟨Nat.le_of_ble_eq_true rfl, rfl, rfl⟩ rfl kk
theorem g_23_7 {v : Int32} (hi : mPi tbP mi pc = some (.getfield i, 3)) (hf : mPf tbP (mPo tbP mi) i = some (6, 7)) (hv : I 48 = v) (kk : mq mi (pc + 3) ml (.int v :: r) (hS n u I A J B mk sn L xs X) Q) : mq mi pc ml (.ref 23 :: r) (hS n u I A J B mk sn L xs X) Q := by
  subst hv
  exact x_get hi hf rfl rfl kk
theorem p_23_7 {x : Int32} (hi : mPi tbP mi pc = some (.putfield i, 3)) (hf : mPf tbP (mPo tbP mi) i = some (6, 7)) (kk : mq mi (pc + 3) ml r (hS n u (va_up I 48 x) A J B mk sn L xs X) Q) : mq mi pc ml (.int x :: .ref 23 :: r) (hS n u I A J B mk sn L xs X) Q :=
  x_put2 hi hf rfl ⟨Nat.le_of_ble_eq_true rfl, rfl, rfl⟩ rfl kk
theorem al_24 {q : Nat} {j v : Int32} (hi : mPi tbP mi pc = some (.iaload, 1)) (hj : j = nI q) (hq : q < 16) (hv : A 38 q = v) (kk : mq mi (pc + 1) ml (.int v :: r) (hS n u I A J B mk sn L xs X) Q) : mq mi pc ml (.int j :: .ref 24 :: r) (hS n u I A J B mk sn L xs X) Q := by
  subst hv
  exact x_ald2 hi rfl hj hq (by decide) kk
theorem as_24 {q : Nat} {j x : Int32} (hi : mPi tbP mi pc = some (.iastore, 1)) (hj : j = nI q) (hq : q < 16) (kk : mq mi (pc + 1) ml r (hS n u I (va_up A 38 (upd (A 38) q x)) J B mk sn L xs X) Q) : mq mi pc ml (.int x :: .int j :: .ref 24 :: r) (hS n u I A J B mk sn L xs X) Q :=
  x_ast2 hi rfl hj hq (by decide) rfl kk
theorem ln_24 (hi : mPi tbP mi pc = some (.arraylength, 1)) (kk : mq mi (pc + 1) ml (.int (nI 16) :: r) (hS n u I A J B mk sn L xs X) Q) : mq mi pc ml (.ref 24 :: r) (hS n u I A J B mk sn L xs X) Q := x_len hi rfl (Or.inl (by decide)) kk
theorem al_25 {q : Nat} {j v : Int32} (hi : mPi tbP mi pc = some (.iaload, 1)) (hj : j = nI q) (hq : q < 8) (hv : A 39 q = v) (kk : mq mi (pc + 1) ml (.int v :: r) (hS n u I A J B mk sn L xs X) Q) : mq mi pc ml (.int j :: .ref 25 :: r) (hS n u I A J B mk sn L xs X) Q := by
  subst hv
  exact x_ald2 hi rfl hj hq (by decide) kk
theorem as_25 {q : Nat} {j x : Int32} (hi : mPi tbP mi pc = some (.iastore, 1)) (hj : j = nI q) (hq : q < 8) (kk : mq mi (pc + 1) ml r (hS n u I (va_up A 39 (upd (A 39) q x)) J B mk sn L xs X) Q) : mq mi pc ml (.int x :: .int j :: .ref 25 :: r) (hS n u I A J B mk sn L xs X) Q :=
  x_ast2 hi rfl hj hq (by decide) rfl kk
theorem ln_25 (hi : mPi tbP mi pc = some (.arraylength, 1)) (kk : mq mi (pc + 1) ml (.int (nI 8) :: r) (hS n u I A J B mk sn L xs X) Q) : mq mi pc ml (.ref 25 :: r) (hS n u I A J B mk sn L xs X) Q := x_len hi rfl (Or.inl (by decide)) kk
theorem al_26 {q : Nat} {j v : Int32} (hi : mPi tbP mi pc = some (.iaload, 1)) (hj : j = nI q) (hq : q < 8) (hv : A 40 q = v) (kk : mq mi (pc + 1) ml (.int v :: r) (hS n u I A J B mk sn L xs X) Q) : mq mi pc ml (.int j :: .ref 26 :: r) (hS n u I A J B mk sn L xs X) Q := by
  subst hv
  exact x_ald2 hi rfl hj hq (by decide) kk
theorem as_26 {q : Nat} {j x : Int32} (hi : mPi tbP mi pc = some (.iastore, 1)) (hj : j = nI q) (hq : q < 8) (kk : mq mi (pc + 1) ml r (hS n u I (va_up A 40 (upd (A 40) q x)) J B mk sn L xs X) Q) : mq mi pc ml (.int x :: .int j :: .ref 26 :: r) (hS n u I A J B mk sn L xs X) Q :=
  x_ast2 hi rfl hj hq (by decide) rfl kk
theorem ln_26 (hi : mPi tbP mi pc = some (.arraylength, 1)) (kk : mq mi (pc + 1) ml (.int (nI 8) :: r) (hS n u I A J B mk sn L xs X) Q) : mq mi pc ml (.ref 26 :: r) (hS n u I A J B mk sn L xs X) Q := x_len hi rfl (Or.inl (by decide)) kk
theorem al_27 {q : Nat} {j v : Int32} (hi : mPi tbP mi pc = some (.iaload, 1)) (hj : j = nI q) (hq : q < 8) (hv : A 41 q = v) (kk : mq mi (pc + 1) ml (.int v :: r) (hS n u I A J B mk sn L xs X) Q) : mq mi pc ml (.int j :: .ref 27 :: r) (hS n u I A J B mk sn L xs X) Q := by
  subst hv
  exact x_ald2 hi rfl hj hq (by decide) kk
theorem as_27 {q : Nat} {j x : Int32} (hi : mPi tbP mi pc = some (.iastore, 1)) (hj : j = nI q) (hq : q < 8) (kk : mq mi (pc + 1) ml r (hS n u I (va_up A 41 (upd (A 41) q x)) J B mk sn L xs X) Q) : mq mi pc ml (.int x :: .int j :: .ref 27 :: r) (hS n u I A J B mk sn L xs X) Q :=
  x_ast2 hi rfl hj hq (by decide) rfl kk
theorem ln_27 (hi : mPi tbP mi pc = some (.arraylength, 1)) (kk : mq mi (pc + 1) ml (.int (nI 8) :: r) (hS n u I A J B mk sn L xs X) Q) : mq mi pc ml (.ref 27 :: r) (hS n u I A J B mk sn L xs X) Q := x_len hi rfl (Or.inl (by decide)) kk
theorem g_28_0 (hi : mPi tbP mi pc = some (.getfield i, 3)) (hf : mPf tbP (mPo tbP mi) i = some (6, 0)) (kk : mq mi (pc + 3) ml (.int 3 :: r) (hS n u I A J B mk sn L xs X) Q) : mq mi pc ml (.ref 28 :: r) (hS n u I A J B mk sn L xs X) Q := x_get hi hf rfl rfl kk
theorem g_28_1 (hi : mPi tbP mi pc = some (.getfield i, 3)) (hf : mPf tbP (mPo tbP mi) i = some (6, 1)) (kk : mq mi (pc + 3) ml (.ref 29 :: r) (hS n u I A J B mk sn L xs X) Q) : mq mi pc ml (.ref 28 :: r) (hS n u I A J B mk sn L xs X) Q := x_get hi hf rfl rfl kk
theorem g_28_2 (hi : mPi tbP mi pc = some (.getfield i, 3)) (hf : mPf tbP (mPo tbP mi) i = some (6, 2)) (kk : mq mi (pc + 3) ml (.ref 30 :: r) (hS n u I A J B mk sn L xs X) Q) : mq mi pc ml (.ref 28 :: r) (hS n u I A J B mk sn L xs X) Q := x_get hi hf rfl rfl kk
theorem g_28_3 (hi : mPi tbP mi pc = some (.getfield i, 3)) (hf : mPf tbP (mPo tbP mi) i = some (6, 3)) (kk : mq mi (pc + 3) ml (.ref 31 :: r) (hS n u I A J B mk sn L xs X) Q) : mq mi pc ml (.ref 28 :: r) (hS n u I A J B mk sn L xs X) Q := x_get hi hf rfl rfl kk
theorem g_28_4 (hi : mPi tbP mi pc = some (.getfield i, 3)) (hf : mPf tbP (mPo tbP mi) i = some (6, 4)) (kk : mq mi (pc + 3) ml (.ref 32 :: r) (hS n u I A J B mk sn L xs X) Q) : mq mi pc ml (.ref 28 :: r) (hS n u I A J B mk sn L xs X) Q := x_get hi hf rfl rfl kk
theorem g_28_5 {v : Int32} (hi : mPi tbP mi pc = some (.getfield i, 3)) (hf : mPf tbP (mPo tbP mi) i = some (6, 5)) (hv : I 49 = v) (kk : mq mi (pc + 3) ml (.int v :: r) (hS n u I A J B mk sn L xs X) Q) : mq mi pc ml (.ref 28 :: r) (hS n u I A J B mk sn L xs X) Q := by
  subst hv
  exact x_get hi hf rfl rfl kk
theorem p_28_5 {x : Int32} (hi : mPi tbP mi pc = some (.putfield i, 3)) (hf : mPf tbP (mPo tbP mi) i = some (6, 5)) (kk : mq mi (pc + 3) ml r (hS n u (va_up I 49 x) A J B mk sn L xs X) Q) : mq mi pc ml (.int x :: .ref 28 :: r) (hS n u I A J B mk sn L xs X) Q :=
  x_put2 hi hf rfl ⟨Nat.le_of_ble_eq_true rfl, rfl, rfl⟩ rfl kk
theorem g_28_6 {v : Int32} (hi : mPi tbP mi pc = some (.getfield i, 3)) (hf : mPf tbP (mPo tbP mi) i = some (6, 6)) (hv : I 50 = v) (kk : mq mi (pc + 3) ml (.int v :: r) (hS n u I A J B mk sn L xs X) Q) : mq mi pc ml (.ref 28 :: r) (hS n u I A J B mk sn L xs X) Q := by
  subst hv
  exact x_get hi hf rfl rfl kk
theorem p_28_6 {x : Int32} (hi : mPi tbP mi pc = some (.putfield i, 3)) (hf : mPf tbP (mPo tbP mi) i = some (6, 6)) (kk : mq mi (pc + 3) ml r (hS n u (va_up I 50 x) A J B mk sn L xs X) Q) : mq mi pc ml (.int x :: .ref 28 :: r) (hS n u I A J B mk sn L xs X) Q :=
  x_put2 hi hf rfl ⟨Nat.le_of_ble_eq_true rfl, rfl, rfl⟩ rfl kk
theorem g_28_7 {v : Int32} (hi : mPi tbP mi pc = some (.getfield i, 3)) (hf : mPf tbP (mPo tbP mi) i = some (6, 7)) (hv : I 51 = v) (kk : mq mi (pc + 3) ml (.int v :: r) (hS n u I A J B mk sn L xs X) Q) : mq mi pc ml (.ref 28 :: r) (hS n u I A J B mk sn L xs X) Q := by
  subst hv
  exact x_get hi hf rfl rfl kk
theorem p_28_7 {x : Int32} (hi : mPi tbP mi pc = some (.putfield i, 3)) (hf : mPf tbP (mPo tbP mi) i = some (6, 7)) (kk : mq mi (pc + 3) ml r (hS n u (va_up I 51 x) A J B mk sn L xs X) Q) : mq mi pc ml (.int x :: .ref 28 :: r) (hS n u I A J B mk sn L xs X) Q :=
  x_put2 hi hf rfl ⟨Nat.le_of_ble_eq_true rfl, rfl, rfl⟩ rfl kk
theorem al_29 {q : Nat} {j v : Int32} (hi : mPi tbP mi pc = some (.iaload, 1)) (hj : j = nI q) (hq : q < 16) (hv : A 42 q = v) (kk : mq mi (pc + 1) ml (.int v :: r) (hS n u I A J B mk sn L xs X) Q) : mq mi pc ml (.int j :: .ref 29 :: r) (hS n u I A J B mk sn L xs X) Q := by
  subst hv
  exact x_ald2 hi rfl hj hq (by decide) kk
theorem as_29 {q : Nat} {j x : Int32} (hi : mPi tbP mi pc = some (.iastore, 1)) (hj : j = nI q) (hq : q < 16) (kk : mq mi (pc + 1) ml r (hS n u I (va_up A 42 (upd (A 42) q x)) J B mk sn L xs X) Q) : mq mi pc ml (.int x :: .int j :: .ref 29 :: r) (hS n u I A J B mk sn L xs X) Q :=
  x_ast2 hi rfl hj hq (by decide) rfl kk
theorem ln_29 (hi : mPi tbP mi pc = some (.arraylength, 1)) (kk : mq mi (pc + 1) ml (.int (nI 16) :: r) (hS n u I A J B mk sn L xs X) Q) : mq mi pc ml (.ref 29 :: r) (hS n u I A J B mk sn L xs X) Q := x_len hi rfl (Or.inl (by decide)) kk
theorem al_30 {q : Nat} {j v : Int32} (hi : mPi tbP mi pc = some (.iaload, 1)) (hj : j = nI q) (hq : q < 8) (hv : A 43 q = v) (kk : mq mi (pc + 1) ml (.int v :: r) (hS n u I A J B mk sn L xs X) Q) : mq mi pc ml (.int j :: .ref 30 :: r) (hS n u I A J B mk sn L xs X) Q := by
  subst hv
  exact x_ald2 hi rfl hj hq (by decide) kk
theorem as_30 {q : Nat} {j x : Int32} (hi : mPi tbP mi pc = some (.iastore, 1)) (hj : j = nI q) (hq : q < 8) (kk : mq mi (pc + 1) ml r (hS n u I (va_up A 43 (upd (A 43) q x)) J B mk sn L xs X) Q) : mq mi pc ml (.int x :: .int j :: .ref 30 :: r) (hS n u I A J B mk sn L xs X) Q :=
  x_ast2 hi rfl hj hq (by decide) rfl kk
theorem ln_30 (hi : mPi tbP mi pc = some (.arraylength, 1)) (kk : mq mi (pc + 1) ml (.int (nI 8) :: r) (hS n u I A J B mk sn L xs X) Q) : mq mi pc ml (.ref 30 :: r) (hS n u I A J B mk sn L xs X) Q := x_len hi rfl (Or.inl (by decide)) kk
theorem al_31 {q : Nat} {j v : Int32} (hi : mPi tbP mi pc = some (.iaload, 1)) (hj : j = nI q) (hq : q < 8) (hv : A 44 q = v) (kk : mq mi (pc + 1) ml (.int v :: r) (hS n u I A J B mk sn L xs X) Q) : mq mi pc ml (.int j :: .ref 31 :: r) (hS n u I A J B mk sn L xs X) Q := by
  subst hv
  exact x_ald2 hi rfl hj hq (by decide) kk
theorem as_31 {q : Nat} {j x : Int32} (hi : mPi tbP mi pc = some (.iastore, 1)) (hj : j = nI q) (hq : q < 8) (kk : mq mi (pc + 1) ml r (hS n u I (va_up A 44 (upd (A 44) q x)) J B mk sn L xs X) Q) : mq mi pc ml (.int x :: .int j :: .ref 31 :: r) (hS n u I A J B mk sn L xs X) Q :=
  x_ast2 hi rfl hj hq (by decide) rfl kk
theorem ln_31 (hi : mPi tbP mi pc = some (.arraylength, 1)) (kk : mq mi (pc + 1) ml (.int (nI 8) :: r) (hS n u I A J B mk sn L xs X) Q) : mq mi pc ml (.ref 31 :: r) (hS n u I A J B mk sn L xs X) Q := x_len hi rfl (Or.inl (by decide)) kk
theorem al_32 {q : Nat} {j v : Int32} (hi : mPi tbP mi pc = some (.iaload, 1)) (hj : j = nI q) (hq : q < 8) (hv : A 45 q = v) (kk : mq mi (pc + 1) ml (.int v :: r) (hS n u I A J B mk sn L xs X) Q) : mq mi pc ml (.int j :: .ref 32 :: r) (hS n u I A J B mk sn L xs X) Q := by
  subst hv
  exact x_ald2 hi rfl hj hq (by decide) kk
theorem as_32 {q : Nat} {j x : Int32} (hi : mPi tbP mi pc = some (.iastore, 1)) (hj : j = nI q) (hq : q < 8) (kk : mq mi (pc + 1) ml r (hS n u I (va_up A 45 (upd (A 45) q x)) J B mk sn L xs X) Q) : mq mi pc ml (.int x :: .int j :: .ref 32 :: r) (hS n u I A J B mk sn L xs X) Q :=
  x_ast2 hi rfl hj hq (by decide) rfl kk
theorem ln_32 (hi : mPi tbP mi pc = some (.arraylength, 1)) (kk : mq mi (pc + 1) ml (.int (nI 8) :: r) (hS n u I A J B mk sn L xs X) Q) : mq mi pc ml (.ref 32 :: r) (hS n u I A J B mk sn L xs X) Q := x_len hi rfl (Or.inl (by decide)) kk
theorem al_33 {q : Nat} {j v : Int32} (hi : mPi tbP mi pc = some (.iaload, 1)) (hj : j = nI q) (hq : q < 32) (hv : A 1 q = v) (kk : mq mi (pc + 1) ml (.int v :: r) (hS n u I A J B mk sn L xs X) Q) : mq mi pc ml (.int j :: .ref 33 :: r) (hS n u I A J B mk sn L xs X) Q := by
  subst hv
  exact x_ald2 hi rfl hj hq (by decide) kk
theorem as_33 {q : Nat} {j x : Int32} (hi : mPi tbP mi pc = some (.iastore, 1)) (hj : j = nI q) (hq : q < 32) (kk : mq mi (pc + 1) ml r (hS n u I (va_up A 1 (upd (A 1) q x)) J B mk sn L xs X) Q) : mq mi pc ml (.int x :: .int j :: .ref 33 :: r) (hS n u I A J B mk sn L xs X) Q :=
  x_ast2 hi rfl hj hq (by decide) rfl kk
theorem ln_33 (hi : mPi tbP mi pc = some (.arraylength, 1)) (kk : mq mi (pc + 1) ml (.int (nI 32) :: r) (hS n u I A J B mk sn L xs X) Q) : mq mi pc ml (.ref 33 :: r) (hS n u I A J B mk sn L xs X) Q := x_len hi rfl (Or.inl (by decide)) kk
theorem g_34_0 (hi : mPi tbP mi pc = some (.getfield i, 3)) (hf : mPf tbP (mPo tbP mi) i = some (3, 0)) (kk : mq mi (pc + 3) ml (.ref 35 :: r) (hS n u I A J B mk sn L xs X) Q) : mq mi pc ml (.ref 34 :: r) (hS n u I A J B mk sn L xs X) Q := x_get hi hf rfl rfl kk
theorem g_34_1 (hi : mPi tbP mi pc = some (.getfield i, 3)) (hf : mPf tbP (mPo tbP mi) i = some (3, 1)) (kk : mq mi (pc + 3) ml (.ref 36 :: r) (hS n u I A J B mk sn L xs X) Q) : mq mi pc ml (.ref 34 :: r) (hS n u I A J B mk sn L xs X) Q := x_get hi hf rfl rfl kk
theorem g_34_2 (hi : mPi tbP mi pc = some (.getfield i, 3)) (hf : mPf tbP (mPo tbP mi) i = some (3, 2)) (kk : mq mi (pc + 3) ml (.ref 37 :: r) (hS n u I A J B mk sn L xs X) Q) : mq mi pc ml (.ref 34 :: r) (hS n u I A J B mk sn L xs X) Q := x_get hi hf rfl rfl kk
theorem g_34_3 (hi : mPi tbP mi pc = some (.getfield i, 3)) (hf : mPf tbP (mPo tbP mi) i = some (3, 3)) (kk : mq mi (pc + 3) ml (.ref 38 :: r) (hS n u I A J B mk sn L xs X) Q) : mq mi pc ml (.ref 34 :: r) (hS n u I A J B mk sn L xs X) Q := x_get hi hf rfl rfl kk
theorem g_34_4 (hi : mPi tbP mi pc = some (.getfield i, 3)) (hf : mPf tbP (mPo tbP mi) i = some (3, 4)) (kk : mq mi (pc + 3) ml (.ref 39 :: r) (hS n u I A J B mk sn L xs X) Q) : mq mi pc ml (.ref 34 :: r) (hS n u I A J B mk sn L xs X) Q := x_get hi hf rfl rfl kk
theorem g_34_5 {v : Int32} (hi : mPi tbP mi pc = some (.getfield i, 3)) (hf : mPf tbP (mPo tbP mi) i = some (3, 5)) (hv : I 16 = v) (kk : mq mi (pc + 3) ml (.int v :: r) (hS n u I A J B mk sn L xs X) Q) : mq mi pc ml (.ref 34 :: r) (hS n u I A J B mk sn L xs X) Q := by
  subst hv
  exact x_get hi hf rfl rfl kk
theorem p_34_5 {x : Int32} (hi : mPi tbP mi pc = some (.putfield i, 3)) (hf : mPf tbP (mPo tbP mi) i = some (3, 5)) (kk : mq mi (pc + 3) ml r (hS n u (va_up I 16 x) A J B mk sn L xs X) Q) : mq mi pc ml (.int x :: .ref 34 :: r) (hS n u I A J B mk sn L xs X) Q :=
  x_put2 hi hf rfl ⟨Nat.le_of_ble_eq_true rfl, rfl, rfl⟩ rfl kk
theorem al_35 {q : Nat} {j v : Int32} (hi : mPi tbP mi pc = some (.iaload, 1)) (hj : j = nI q) (hq : q < 8) (hv : A 5 q = v) (kk : mq mi (pc + 1) ml (.int v :: r) (hS n u I A J B mk sn L xs X) Q) : mq mi pc ml (.int j :: .ref 35 :: r) (hS n u I A J B mk sn L xs X) Q := by
  subst hv
  exact x_ald2 hi rfl hj hq (by decide) kk
theorem as_35 {q : Nat} {j x : Int32} (hi : mPi tbP mi pc = some (.iastore, 1)) (hj : j = nI q) (hq : q < 8) (kk : mq mi (pc + 1) ml r (hS n u I (va_up A 5 (upd (A 5) q x)) J B mk sn L xs X) Q) : mq mi pc ml (.int x :: .int j :: .ref 35 :: r) (hS n u I A J B mk sn L xs X) Q :=
  x_ast2 hi rfl hj hq (by decide) rfl kk
theorem ln_35 (hi : mPi tbP mi pc = some (.arraylength, 1)) (kk : mq mi (pc + 1) ml (.int (nI 8) :: r) (hS n u I A J B mk sn L xs X) Q) : mq mi pc ml (.ref 35 :: r) (hS n u I A J B mk sn L xs X) Q := x_len hi rfl (Or.inl (by decide)) kk
theorem al_36 {q : Nat} {j v : Int32} (hi : mPi tbP mi pc = some (.iaload, 1)) (hj : j = nI q) (hq : q < 8) (hv : A 6 q = v) (kk : mq mi (pc + 1) ml (.int v :: r) (hS n u I A J B mk sn L xs X) Q) : mq mi pc ml (.int j :: .ref 36 :: r) (hS n u I A J B mk sn L xs X) Q := by
  subst hv
  exact x_ald2 hi rfl hj hq (by decide) kk
theorem as_36 {q : Nat} {j x : Int32} (hi : mPi tbP mi pc = some (.iastore, 1)) (hj : j = nI q) (hq : q < 8) (kk : mq mi (pc + 1) ml r (hS n u I (va_up A 6 (upd (A 6) q x)) J B mk sn L xs X) Q) : mq mi pc ml (.int x :: .int j :: .ref 36 :: r) (hS n u I A J B mk sn L xs X) Q :=
  x_ast2 hi rfl hj hq (by decide) rfl kk
theorem ln_36 (hi : mPi tbP mi pc = some (.arraylength, 1)) (kk : mq mi (pc + 1) ml (.int (nI 8) :: r) (hS n u I A J B mk sn L xs X) Q) : mq mi pc ml (.ref 36 :: r) (hS n u I A J B mk sn L xs X) Q := x_len hi rfl (Or.inl (by decide)) kk
theorem al_37 {q : Nat} {j v : Int32} (hi : mPi tbP mi pc = some (.iaload, 1)) (hj : j = nI q) (hq : q < 8) (hv : A 7 q = v) (kk : mq mi (pc + 1) ml (.int v :: r) (hS n u I A J B mk sn L xs X) Q) : mq mi pc ml (.int j :: .ref 37 :: r) (hS n u I A J B mk sn L xs X) Q := by
  subst hv
  exact x_ald2 hi rfl hj hq (by decide) kk
theorem as_37 {q : Nat} {j x : Int32} (hi : mPi tbP mi pc = some (.iastore, 1)) (hj : j = nI q) (hq : q < 8) (kk : mq mi (pc + 1) ml r (hS n u I (va_up A 7 (upd (A 7) q x)) J B mk sn L xs X) Q) : mq mi pc ml (.int x :: .int j :: .ref 37 :: r) (hS n u I A J B mk sn L xs X) Q :=
  x_ast2 hi rfl hj hq (by decide) rfl kk
theorem ln_37 (hi : mPi tbP mi pc = some (.arraylength, 1)) (kk : mq mi (pc + 1) ml (.int (nI 8) :: r) (hS n u I A J B mk sn L xs X) Q) : mq mi pc ml (.ref 37 :: r) (hS n u I A J B mk sn L xs X) Q := x_len hi rfl (Or.inl (by decide)) kk
theorem al_38 {q : Nat} {j v : Int32} (hi : mPi tbP mi pc = some (.iaload, 1)) (hj : j = nI q) (hq : q < 8) (hv : A 8 q = v) (kk : mq mi (pc + 1) ml (.int v :: r) (hS n u I A J B mk sn L xs X) Q) : mq mi pc ml (.int j :: .ref 38 :: r) (hS n u I A J B mk sn L xs X) Q := by
  subst hv
  exact x_ald2 hi rfl hj hq (by decide) kk
theorem as_38 {q : Nat} {j x : Int32} (hi : mPi tbP mi pc = some (.iastore, 1)) (hj : j = nI q) (hq : q < 8) (kk : mq mi (pc + 1) ml r (hS n u I (va_up A 8 (upd (A 8) q x)) J B mk sn L xs X) Q) : mq mi pc ml (.int x :: .int j :: .ref 38 :: r) (hS n u I A J B mk sn L xs X) Q :=
  x_ast2 hi rfl hj hq (by decide) rfl kk
theorem ln_38 (hi : mPi tbP mi pc = some (.arraylength, 1)) (kk : mq mi (pc + 1) ml (.int (nI 8) :: r) (hS n u I A J B mk sn L xs X) Q) : mq mi pc ml (.ref 38 :: r) (hS n u I A J B mk sn L xs X) Q := x_len hi rfl (Or.inl (by decide)) kk
theorem al_39 {q : Nat} {j v : Int32} (hi : mPi tbP mi pc = some (.iaload, 1)) (hj : j = nI q) (hq : q < 8) (hv : A 9 q = v) (kk : mq mi (pc + 1) ml (.int v :: r) (hS n u I A J B mk sn L xs X) Q) : mq mi pc ml (.int j :: .ref 39 :: r) (hS n u I A J B mk sn L xs X) Q := by
  subst hv
  exact x_ald2 hi rfl hj hq (by decide) kk
theorem as_39 {q : Nat} {j x : Int32} (hi : mPi tbP mi pc = some (.iastore, 1)) (hj : j = nI q) (hq : q < 8) (kk : mq mi (pc + 1) ml r (hS n u I (va_up A 9 (upd (A 9) q x)) J B mk sn L xs X) Q) : mq mi pc ml (.int x :: .int j :: .ref 39 :: r) (hS n u I A J B mk sn L xs X) Q :=
  x_ast2 hi rfl hj hq (by decide) rfl kk
theorem ln_39 (hi : mPi tbP mi pc = some (.arraylength, 1)) (kk : mq mi (pc + 1) ml (.int (nI 8) :: r) (hS n u I A J B mk sn L xs X) Q) : mq mi pc ml (.ref 39 :: r) (hS n u I A J B mk sn L xs X) Q := x_len hi rfl (Or.inl (by decide)) kk
theorem g_40_0 (hi : mPi tbP mi pc = some (.getfield i, 3)) (hf : mPf tbP (mPo tbP mi) i = some (7, 0)) (kk : mq mi (pc + 3) ml (.ref 41 :: r) (hS n u I A J B mk sn L xs X) Q) : mq mi pc ml (.ref 40 :: r) (hS n u I A J B mk sn L xs X) Q := x_get hi hf rfl rfl kk
theorem g_40_1 {v : Int32} (hi : mPi tbP mi pc = some (.getfield i, 3)) (hf : mPf tbP (mPo tbP mi) i = some (7, 1)) (hv : I 12 = v) (kk : mq mi (pc + 3) ml (.int v :: r) (hS n u I A J B mk sn L xs X) Q) : mq mi pc ml (.ref 40 :: r) (hS n u I A J B mk sn L xs X) Q := by
  subst hv
  exact x_get hi hf rfl rfl kk
theorem p_40_1 {x : Int32} (hi : mPi tbP mi pc = some (.putfield i, 3)) (hf : mPf tbP (mPo tbP mi) i = some (7, 1)) (kk : mq mi (pc + 3) ml r (hS n u (va_up I 12 x) A J B mk sn L xs X) Q) : mq mi pc ml (.int x :: .ref 40 :: r) (hS n u I A J B mk sn L xs X) Q :=
  x_put2 hi hf rfl ⟨Nat.le_of_ble_eq_true rfl, rfl, rfl⟩ rfl kk
theorem g_40_2 {v : Int32} (hi : mPi tbP mi pc = some (.getfield i, 3)) (hf : mPf tbP (mPo tbP mi) i = some (7, 2)) (hv : I 13 = v) (kk : mq mi (pc + 3) ml (.int v :: r) (hS n u I A J B mk sn L xs X) Q) : mq mi pc ml (.ref 40 :: r) (hS n u I A J B mk sn L xs X) Q := by
  subst hv
  exact x_get hi hf rfl rfl kk
theorem p_40_2 {x : Int32} (hi : mPi tbP mi pc = some (.putfield i, 3)) (hf : mPf tbP (mPo tbP mi) i = some (7, 2)) (kk : mq mi (pc + 3) ml r (hS n u (va_up I 13 x) A J B mk sn L xs X) Q) : mq mi pc ml (.int x :: .ref 40 :: r) (hS n u I A J B mk sn L xs X) Q :=
  x_put2 hi hf rfl ⟨Nat.le_of_ble_eq_true rfl, rfl, rfl⟩ rfl kk
theorem g_40_3 (hi : mPi tbP mi pc = some (.getfield i, 3)) (hf : mPf tbP (mPo tbP mi) i = some (7, 3)) (kk : mq mi (pc + 3) ml (.long J :: r) (hS n u I A J B mk sn L xs X) Q) : mq mi pc ml (.ref 40 :: r) (hS n u I A J B mk sn L xs X) Q := x_get hi hf rfl rfl kk
theorem p_40_3 {x : Int64} (hi : mPi tbP mi pc = some (.putfield i, 3)) (hf : mPf tbP (mPo tbP mi) i = some (7, 3)) (kk : mq mi (pc + 3) ml r (hS n u I A x B mk sn L xs X) Q) : mq mi pc ml (.long x :: .ref 40 :: r) (hS n u I A J B mk sn L xs X) Q :=
  x_put2 hi hf rfl ⟨Nat.le_of_ble_eq_true rfl, rfl, rfl⟩ rfl kk
theorem al_41 {q : Nat} {j v : Int32} (hi : mPi tbP mi pc = some (.iaload, 1)) (hj : j = nI q) (hq : q < 512) (hv : A 2 q = v) (kk : mq mi (pc + 1) ml (.int v :: r) (hS n u I A J B mk sn L xs X) Q) : mq mi pc ml (.int j :: .ref 41 :: r) (hS n u I A J B mk sn L xs X) Q := by
  subst hv
  exact x_ald2 hi rfl hj hq (by decide) kk
theorem as_41 {q : Nat} {j x : Int32} (hi : mPi tbP mi pc = some (.iastore, 1)) (hj : j = nI q) (hq : q < 512) (kk : mq mi (pc + 1) ml r (hS n u I (va_up A 2 (upd (A 2) q x)) J B mk sn L xs X) Q) : mq mi pc ml (.int x :: .int j :: .ref 41 :: r) (hS n u I A J B mk sn L xs X) Q :=
  x_ast2 hi rfl hj hq (by decide) rfl kk
theorem ln_41 (hi : mPi tbP mi pc = some (.arraylength, 1)) (kk : mq mi (pc + 1) ml (.int (nI 512) :: r) (hS n u I A J B mk sn L xs X) Q) : mq mi pc ml (.ref 41 :: r) (hS n u I A J B mk sn L xs X) Q := x_len hi rfl (Or.inl (by decide)) kk
theorem g_42_0 (hi : mPi tbP mi pc = some (.getfield i, 3)) (hf : mPf tbP (mPo tbP mi) i = some (4, 0)) (kk : mq mi (pc + 3) ml (.ref 43 :: r) (hS n u I A J B mk sn L xs X) Q) : mq mi pc ml (.ref 42 :: r) (hS n u I A J B mk sn L xs X) Q := x_get hi hf rfl rfl kk
theorem g_42_1 {v : Int32} (hi : mPi tbP mi pc = some (.getfield i, 3)) (hf : mPf tbP (mPo tbP mi) i = some (4, 1)) (hv : I 23 = v) (kk : mq mi (pc + 3) ml (.int v :: r) (hS n u I A J B mk sn L xs X) Q) : mq mi pc ml (.ref 42 :: r) (hS n u I A J B mk sn L xs X) Q := by
  subst hv
  exact x_get hi hf rfl rfl kk
theorem p_42_1 {x : Int32} (hi : mPi tbP mi pc = some (.putfield i, 3)) (hf : mPf tbP (mPo tbP mi) i = some (4, 1)) (kk : mq mi (pc + 3) ml r (hS n u (va_up I 23 x) A J B mk sn L xs X) Q) : mq mi pc ml (.int x :: .ref 42 :: r) (hS n u I A J B mk sn L xs X) Q :=
  x_put2 hi hf rfl ⟨Nat.le_of_ble_eq_true rfl, rfl, rfl⟩ rfl kk
theorem g_42_2 {v : Int32} (hi : mPi tbP mi pc = some (.getfield i, 3)) (hf : mPf tbP (mPo tbP mi) i = some (4, 2)) (hv : I 24 = v) (kk : mq mi (pc + 3) ml (.int v :: r) (hS n u I A J B mk sn L xs X) Q) : mq mi pc ml (.ref 42 :: r) (hS n u I A J B mk sn L xs X) Q := by
  subst hv
  exact x_get hi hf rfl rfl kk
theorem p_42_2 {x : Int32} (hi : mPi tbP mi pc = some (.putfield i, 3)) (hf : mPf tbP (mPo tbP mi) i = some (4, 2)) (kk : mq mi (pc + 3) ml r (hS n u (va_up I 24 x) A J B mk sn L xs X) Q) : mq mi pc ml (.int x :: .ref 42 :: r) (hS n u I A J B mk sn L xs X) Q :=
  x_put2 hi hf rfl ⟨Nat.le_of_ble_eq_true rfl, rfl, rfl⟩ rfl kk
theorem g_43_0 (hi : mPi tbP mi pc = some (.getfield i, 3)) (hf : mPf tbP (mPo tbP mi) i = some (3, 0)) (kk : mq mi (pc + 3) ml (.ref 44 :: r) (hS n u I A J B mk sn L xs X) Q) : mq mi pc ml (.ref 43 :: r) (hS n u I A J B mk sn L xs X) Q := x_get hi hf rfl rfl kk
theorem g_43_1 (hi : mPi tbP mi pc = some (.getfield i, 3)) (hf : mPf tbP (mPo tbP mi) i = some (3, 1)) (kk : mq mi (pc + 3) ml (.ref 45 :: r) (hS n u I A J B mk sn L xs X) Q) : mq mi pc ml (.ref 43 :: r) (hS n u I A J B mk sn L xs X) Q := x_get hi hf rfl rfl kk
theorem g_43_2 (hi : mPi tbP mi pc = some (.getfield i, 3)) (hf : mPf tbP (mPo tbP mi) i = some (3, 2)) (kk : mq mi (pc + 3) ml (.ref 46 :: r) (hS n u I A J B mk sn L xs X) Q) : mq mi pc ml (.ref 43 :: r) (hS n u I A J B mk sn L xs X) Q := x_get hi hf rfl rfl kk
theorem g_43_3 (hi : mPi tbP mi pc = some (.getfield i, 3)) (hf : mPf tbP (mPo tbP mi) i = some (3, 3)) (kk : mq mi (pc + 3) ml (.ref 47 :: r) (hS n u I A J B mk sn L xs X) Q) : mq mi pc ml (.ref 43 :: r) (hS n u I A J B mk sn L xs X) Q := x_get hi hf rfl rfl kk
theorem g_43_4 (hi : mPi tbP mi pc = some (.getfield i, 3)) (hf : mPf tbP (mPo tbP mi) i = some (3, 4)) (kk : mq mi (pc + 3) ml (.ref 48 :: r) (hS n u I A J B mk sn L xs X) Q) : mq mi pc ml (.ref 43 :: r) (hS n u I A J B mk sn L xs X) Q := x_get hi hf rfl rfl kk
theorem g_43_5 {v : Int32} (hi : mPi tbP mi pc = some (.getfield i, 3)) (hf : mPf tbP (mPo tbP mi) i = some (3, 5)) (hv : I 25 = v) (kk : mq mi (pc + 3) ml (.int v :: r) (hS n u I A J B mk sn L xs X) Q) : mq mi pc ml (.ref 43 :: r) (hS n u I A J B mk sn L xs X) Q := by
  subst hv
  exact x_get hi hf rfl rfl kk
theorem p_43_5 {x : Int32} (hi : mPi tbP mi pc = some (.putfield i, 3)) (hf : mPf tbP (mPo tbP mi) i = some (3, 5)) (kk : mq mi (pc + 3) ml r (hS n u (va_up I 25 x) A J B mk sn L xs X) Q) : mq mi pc ml (.int x :: .ref 43 :: r) (hS n u I A J B mk sn L xs X) Q :=
  x_put2 hi hf rfl ⟨Nat.le_of_ble_eq_true rfl, rfl, rfl⟩ rfl kk
theorem al_44 {q : Nat} {j v : Int32} (hi : mPi tbP mi pc = some (.iaload, 1)) (hj : j = nI q) (hq : q < 4) (hv : A 15 q = v) (kk : mq mi (pc + 1) ml (.int v :: r) (hS n u I A J B mk sn L xs X) Q) : mq mi pc ml (.int j :: .ref 44 :: r) (hS n u I A J B mk sn L xs X) Q := by
  subst hv
  exact x_ald2 hi rfl hj hq (by decide) kk
theorem as_44 {q : Nat} {j x : Int32} (hi : mPi tbP mi pc = some (.iastore, 1)) (hj : j = nI q) (hq : q < 4) (kk : mq mi (pc + 1) ml r (hS n u I (va_up A 15 (upd (A 15) q x)) J B mk sn L xs X) Q) : mq mi pc ml (.int x :: .int j :: .ref 44 :: r) (hS n u I A J B mk sn L xs X) Q :=
  x_ast2 hi rfl hj hq (by decide) rfl kk
theorem ln_44 (hi : mPi tbP mi pc = some (.arraylength, 1)) (kk : mq mi (pc + 1) ml (.int (nI 4) :: r) (hS n u I A J B mk sn L xs X) Q) : mq mi pc ml (.ref 44 :: r) (hS n u I A J B mk sn L xs X) Q := x_len hi rfl (Or.inl (by decide)) kk
theorem al_45 {q : Nat} {j v : Int32} (hi : mPi tbP mi pc = some (.iaload, 1)) (hj : j = nI q) (hq : q < 4) (hv : A 16 q = v) (kk : mq mi (pc + 1) ml (.int v :: r) (hS n u I A J B mk sn L xs X) Q) : mq mi pc ml (.int j :: .ref 45 :: r) (hS n u I A J B mk sn L xs X) Q := by
  subst hv
  exact x_ald2 hi rfl hj hq (by decide) kk
theorem as_45 {q : Nat} {j x : Int32} (hi : mPi tbP mi pc = some (.iastore, 1)) (hj : j = nI q) (hq : q < 4) (kk : mq mi (pc + 1) ml r (hS n u I (va_up A 16 (upd (A 16) q x)) J B mk sn L xs X) Q) : mq mi pc ml (.int x :: .int j :: .ref 45 :: r) (hS n u I A J B mk sn L xs X) Q :=
  x_ast2 hi rfl hj hq (by decide) rfl kk
theorem ln_45 (hi : mPi tbP mi pc = some (.arraylength, 1)) (kk : mq mi (pc + 1) ml (.int (nI 4) :: r) (hS n u I A J B mk sn L xs X) Q) : mq mi pc ml (.ref 45 :: r) (hS n u I A J B mk sn L xs X) Q := x_len hi rfl (Or.inl (by decide)) kk
theorem al_46 {q : Nat} {j v : Int32} (hi : mPi tbP mi pc = some (.iaload, 1)) (hj : j = nI q) (hq : q < 4) (hv : A 17 q = v) (kk : mq mi (pc + 1) ml (.int v :: r) (hS n u I A J B mk sn L xs X) Q) : mq mi pc ml (.int j :: .ref 46 :: r) (hS n u I A J B mk sn L xs X) Q := by
  subst hv
  exact x_ald2 hi rfl hj hq (by decide) kk
theorem as_46 {q : Nat} {j x : Int32} (hi : mPi tbP mi pc = some (.iastore, 1)) (hj : j = nI q) (hq : q < 4) (kk : mq mi (pc + 1) ml r (hS n u I (va_up A 17 (upd (A 17) q x)) J B mk sn L xs X) Q) : mq mi pc ml (.int x :: .int j :: .ref 46 :: r) (hS n u I A J B mk sn L xs X) Q :=
  x_ast2 hi rfl hj hq (by decide) rfl kk
theorem ln_46 (hi : mPi tbP mi pc = some (.arraylength, 1)) (kk : mq mi (pc + 1) ml (.int (nI 4) :: r) (hS n u I A J B mk sn L xs X) Q) : mq mi pc ml (.ref 46 :: r) (hS n u I A J B mk sn L xs X) Q := x_len hi rfl (Or.inl (by decide)) kk
theorem al_47 {q : Nat} {j v : Int32} (hi : mPi tbP mi pc = some (.iaload, 1)) (hj : j = nI q) (hq : q < 4) (hv : A 18 q = v) (kk : mq mi (pc + 1) ml (.int v :: r) (hS n u I A J B mk sn L xs X) Q) : mq mi pc ml (.int j :: .ref 47 :: r) (hS n u I A J B mk sn L xs X) Q := by
  subst hv
  exact x_ald2 hi rfl hj hq (by decide) kk
theorem as_47 {q : Nat} {j x : Int32} (hi : mPi tbP mi pc = some (.iastore, 1)) (hj : j = nI q) (hq : q < 4) (kk : mq mi (pc + 1) ml r (hS n u I (va_up A 18 (upd (A 18) q x)) J B mk sn L xs X) Q) : mq mi pc ml (.int x :: .int j :: .ref 47 :: r) (hS n u I A J B mk sn L xs X) Q :=
  x_ast2 hi rfl hj hq (by decide) rfl kk
theorem ln_47 (hi : mPi tbP mi pc = some (.arraylength, 1)) (kk : mq mi (pc + 1) ml (.int (nI 4) :: r) (hS n u I A J B mk sn L xs X) Q) : mq mi pc ml (.ref 47 :: r) (hS n u I A J B mk sn L xs X) Q := x_len hi rfl (Or.inl (by decide)) kk
theorem al_48 {q : Nat} {j v : Int32} (hi : mPi tbP mi pc = some (.iaload, 1)) (hj : j = nI q) (hq : q < 4) (hv : A 19 q = v) (kk : mq mi (pc + 1) ml (.int v :: r) (hS n u I A J B mk sn L xs X) Q) : mq mi pc ml (.int j :: .ref 48 :: r) (hS n u I A J B mk sn L xs X) Q := by
  subst hv
  exact x_ald2 hi rfl hj hq (by decide) kk
theorem as_48 {q : Nat} {j x : Int32} (hi : mPi tbP mi pc = some (.iastore, 1)) (hj : j = nI q) (hq : q < 4) (kk : mq mi (pc + 1) ml r (hS n u I (va_up A 19 (upd (A 19) q x)) J B mk sn L xs X) Q) : mq mi pc ml (.int x :: .int j :: .ref 48 :: r) (hS n u I A J B mk sn L xs X) Q :=
  x_ast2 hi rfl hj hq (by decide) rfl kk
theorem ln_48 (hi : mPi tbP mi pc = some (.arraylength, 1)) (kk : mq mi (pc + 1) ml (.int (nI 4) :: r) (hS n u I A J B mk sn L xs X) Q) : mq mi pc ml (.ref 48 :: r) (hS n u I A J B mk sn L xs X) Q := x_len hi rfl (Or.inl (by decide)) kk
theorem g_49_0 (hi : mPi tbP mi pc = some (.getfield i, 3)) (hf : mPf tbP (mPo tbP mi) i = some (2, 0)) (kk : mq mi (pc + 3) ml (.ref 50 :: r) (hS n u I A J B mk sn L xs X) Q) : mq mi pc ml (.ref 49 :: r) (hS n u I A J B mk sn L xs X) Q := x_get hi hf rfl rfl kk
theorem g_49_1 {v : Int32} (hi : mPi tbP mi pc = some (.getfield i, 3)) (hf : mPf tbP (mPo tbP mi) i = some (2, 1)) (hv : I 14 = v) (kk : mq mi (pc + 3) ml (.int v :: r) (hS n u I A J B mk sn L xs X) Q) : mq mi pc ml (.ref 49 :: r) (hS n u I A J B mk sn L xs X) Q := by
  subst hv
  exact x_get hi hf rfl rfl kk
theorem p_49_1 {x : Int32} (hi : mPi tbP mi pc = some (.putfield i, 3)) (hf : mPf tbP (mPo tbP mi) i = some (2, 1)) (kk : mq mi (pc + 3) ml r (hS n u (va_up I 14 x) A J B mk sn L xs X) Q) : mq mi pc ml (.int x :: .ref 49 :: r) (hS n u I A J B mk sn L xs X) Q :=
  x_put2 hi hf rfl ⟨Nat.le_of_ble_eq_true rfl, rfl, rfl⟩ rfl kk
theorem al_50 {q : Nat} {j v : Int32} (hi : mPi tbP mi pc = some (.iaload, 1)) (hj : j = nI q) (hq : q < 128) (hv : A 3 q = v) (kk : mq mi (pc + 1) ml (.int v :: r) (hS n u I A J B mk sn L xs X) Q) : mq mi pc ml (.int j :: .ref 50 :: r) (hS n u I A J B mk sn L xs X) Q := by
  subst hv
  exact x_ald2 hi rfl hj hq (by decide) kk
theorem as_50 {q : Nat} {j x : Int32} (hi : mPi tbP mi pc = some (.iastore, 1)) (hj : j = nI q) (hq : q < 128) (kk : mq mi (pc + 1) ml r (hS n u I (va_up A 3 (upd (A 3) q x)) J B mk sn L xs X) Q) : mq mi pc ml (.int x :: .int j :: .ref 50 :: r) (hS n u I A J B mk sn L xs X) Q :=
  x_ast2 hi rfl hj hq (by decide) rfl kk
theorem ln_50 (hi : mPi tbP mi pc = some (.arraylength, 1)) (kk : mq mi (pc + 1) ml (.int (nI 128) :: r) (hS n u I A J B mk sn L xs X) Q) : mq mi pc ml (.ref 50 :: r) (hS n u I A J B mk sn L xs X) Q := x_len hi rfl (Or.inl (by decide)) kk
theorem g_51_0 (hi : mPi tbP mi pc = some (.getfield i, 3)) (hf : mPf tbP (mPo tbP mi) i = some (2, 0)) (kk : mq mi (pc + 3) ml (.ref 52 :: r) (hS n u I A J B mk sn L xs X) Q) : mq mi pc ml (.ref 51 :: r) (hS n u I A J B mk sn L xs X) Q := x_get hi hf rfl rfl kk
theorem g_51_1 {v : Int32} (hi : mPi tbP mi pc = some (.getfield i, 3)) (hf : mPf tbP (mPo tbP mi) i = some (2, 1)) (hv : I 15 = v) (kk : mq mi (pc + 3) ml (.int v :: r) (hS n u I A J B mk sn L xs X) Q) : mq mi pc ml (.ref 51 :: r) (hS n u I A J B mk sn L xs X) Q := by
  subst hv
  exact x_get hi hf rfl rfl kk
theorem p_51_1 {x : Int32} (hi : mPi tbP mi pc = some (.putfield i, 3)) (hf : mPf tbP (mPo tbP mi) i = some (2, 1)) (kk : mq mi (pc + 3) ml r (hS n u (va_up I 15 x) A J B mk sn L xs X) Q) : mq mi pc ml (.int x :: .ref 51 :: r) (hS n u I A J B mk sn L xs X) Q :=
  x_put2 hi hf rfl ⟨Nat.le_of_ble_eq_true rfl, rfl, rfl⟩ rfl kk
theorem al_52 {q : Nat} {j v : Int32} (hi : mPi tbP mi pc = some (.iaload, 1)) (hj : j = nI q) (hq : q < 32) (hv : A 4 q = v) (kk : mq mi (pc + 1) ml (.int v :: r) (hS n u I A J B mk sn L xs X) Q) : mq mi pc ml (.int j :: .ref 52 :: r) (hS n u I A J B mk sn L xs X) Q := by
  subst hv
  exact x_ald2 hi rfl hj hq (by decide) kk
theorem as_52 {q : Nat} {j x : Int32} (hi : mPi tbP mi pc = some (.iastore, 1)) (hj : j = nI q) (hq : q < 32) (kk : mq mi (pc + 1) ml r (hS n u I (va_up A 4 (upd (A 4) q x)) J B mk sn L xs X) Q) : mq mi pc ml (.int x :: .int j :: .ref 52 :: r) (hS n u I A J B mk sn L xs X) Q :=
  x_ast2 hi rfl hj hq (by decide) rfl kk
theorem ln_52 (hi : mPi tbP mi pc = some (.arraylength, 1)) (kk : mq mi (pc + 1) ml (.int (nI 32) :: r) (hS n u I A J B mk sn L xs X) Q) : mq mi pc ml (.ref 52 :: r) (hS n u I A J B mk sn L xs X) Q := x_len hi rfl (Or.inl (by decide)) kk
theorem g_53_0 (hi : mPi tbP mi pc = some (.getfield i, 3)) (hf : mPf tbP (mPo tbP mi) i = some (4, 0)) (kk : mq mi (pc + 3) ml (.ref 54 :: r) (hS n u I A J B mk sn L xs X) Q) : mq mi pc ml (.ref 53 :: r) (hS n u I A J B mk sn L xs X) Q := x_get hi hf rfl rfl kk
theorem g_53_1 {v : Int32} (hi : mPi tbP mi pc = some (.getfield i, 3)) (hf : mPf tbP (mPo tbP mi) i = some (4, 1)) (hv : I 26 = v) (kk : mq mi (pc + 3) ml (.int v :: r) (hS n u I A J B mk sn L xs X) Q) : mq mi pc ml (.ref 53 :: r) (hS n u I A J B mk sn L xs X) Q := by
  subst hv
  exact x_get hi hf rfl rfl kk
theorem p_53_1 {x : Int32} (hi : mPi tbP mi pc = some (.putfield i, 3)) (hf : mPf tbP (mPo tbP mi) i = some (4, 1)) (kk : mq mi (pc + 3) ml r (hS n u (va_up I 26 x) A J B mk sn L xs X) Q) : mq mi pc ml (.int x :: .ref 53 :: r) (hS n u I A J B mk sn L xs X) Q :=
  x_put2 hi hf rfl ⟨Nat.le_of_ble_eq_true rfl, rfl, rfl⟩ rfl kk
theorem g_53_2 {v : Int32} (hi : mPi tbP mi pc = some (.getfield i, 3)) (hf : mPf tbP (mPo tbP mi) i = some (4, 2)) (hv : I 27 = v) (kk : mq mi (pc + 3) ml (.int v :: r) (hS n u I A J B mk sn L xs X) Q) : mq mi pc ml (.ref 53 :: r) (hS n u I A J B mk sn L xs X) Q := by
  subst hv
  exact x_get hi hf rfl rfl kk
theorem p_53_2 {x : Int32} (hi : mPi tbP mi pc = some (.putfield i, 3)) (hf : mPf tbP (mPo tbP mi) i = some (4, 2)) (kk : mq mi (pc + 3) ml r (hS n u (va_up I 27 x) A J B mk sn L xs X) Q) : mq mi pc ml (.int x :: .ref 53 :: r) (hS n u I A J B mk sn L xs X) Q :=
  x_put2 hi hf rfl ⟨Nat.le_of_ble_eq_true rfl, rfl, rfl⟩ rfl kk
theorem g_54_0 (hi : mPi tbP mi pc = some (.getfield i, 3)) (hf : mPf tbP (mPo tbP mi) i = some (3, 0)) (kk : mq mi (pc + 3) ml (.ref 55 :: r) (hS n u I A J B mk sn L xs X) Q) : mq mi pc ml (.ref 54 :: r) (hS n u I A J B mk sn L xs X) Q := x_get hi hf rfl rfl kk
theorem g_54_1 (hi : mPi tbP mi pc = some (.getfield i, 3)) (hf : mPf tbP (mPo tbP mi) i = some (3, 1)) (kk : mq mi (pc + 3) ml (.ref 56 :: r) (hS n u I A J B mk sn L xs X) Q) : mq mi pc ml (.ref 54 :: r) (hS n u I A J B mk sn L xs X) Q := x_get hi hf rfl rfl kk
theorem g_54_2 (hi : mPi tbP mi pc = some (.getfield i, 3)) (hf : mPf tbP (mPo tbP mi) i = some (3, 2)) (kk : mq mi (pc + 3) ml (.ref 57 :: r) (hS n u I A J B mk sn L xs X) Q) : mq mi pc ml (.ref 54 :: r) (hS n u I A J B mk sn L xs X) Q := x_get hi hf rfl rfl kk
theorem g_54_3 (hi : mPi tbP mi pc = some (.getfield i, 3)) (hf : mPf tbP (mPo tbP mi) i = some (3, 3)) (kk : mq mi (pc + 3) ml (.ref 58 :: r) (hS n u I A J B mk sn L xs X) Q) : mq mi pc ml (.ref 54 :: r) (hS n u I A J B mk sn L xs X) Q := x_get hi hf rfl rfl kk
theorem g_54_4 (hi : mPi tbP mi pc = some (.getfield i, 3)) (hf : mPf tbP (mPo tbP mi) i = some (3, 4)) (kk : mq mi (pc + 3) ml (.ref 59 :: r) (hS n u I A J B mk sn L xs X) Q) : mq mi pc ml (.ref 54 :: r) (hS n u I A J B mk sn L xs X) Q := x_get hi hf rfl rfl kk
theorem g_54_5 {v : Int32} (hi : mPi tbP mi pc = some (.getfield i, 3)) (hf : mPf tbP (mPo tbP mi) i = some (3, 5)) (hv : I 28 = v) (kk : mq mi (pc + 3) ml (.int v :: r) (hS n u I A J B mk sn L xs X) Q) : mq mi pc ml (.ref 54 :: r) (hS n u I A J B mk sn L xs X) Q := by
  subst hv
  exact x_get hi hf rfl rfl kk
theorem p_54_5 {x : Int32} (hi : mPi tbP mi pc = some (.putfield i, 3)) (hf : mPf tbP (mPo tbP mi) i = some (3, 5)) (kk : mq mi (pc + 3) ml r (hS n u (va_up I 28 x) A J B mk sn L xs X) Q) : mq mi pc ml (.int x :: .ref 54 :: r) (hS n u I A J B mk sn L xs X) Q :=
  x_put2 hi hf rfl ⟨Nat.le_of_ble_eq_true rfl, rfl, rfl⟩ rfl kk
theorem al_55 {q : Nat} {j v : Int32} (hi : mPi tbP mi pc = some (.iaload, 1)) (hj : j = nI q) (hq : q < 4) (hv : A 20 q = v) (kk : mq mi (pc + 1) ml (.int v :: r) (hS n u I A J B mk sn L xs X) Q) : mq mi pc ml (.int j :: .ref 55 :: r) (hS n u I A J B mk sn L xs X) Q := by
  subst hv
  exact x_ald2 hi rfl hj hq (by decide) kk
theorem as_55 {q : Nat} {j x : Int32} (hi : mPi tbP mi pc = some (.iastore, 1)) (hj : j = nI q) (hq : q < 4) (kk : mq mi (pc + 1) ml r (hS n u I (va_up A 20 (upd (A 20) q x)) J B mk sn L xs X) Q) : mq mi pc ml (.int x :: .int j :: .ref 55 :: r) (hS n u I A J B mk sn L xs X) Q :=
  x_ast2 hi rfl hj hq (by decide) rfl kk
theorem ln_55 (hi : mPi tbP mi pc = some (.arraylength, 1)) (kk : mq mi (pc + 1) ml (.int (nI 4) :: r) (hS n u I A J B mk sn L xs X) Q) : mq mi pc ml (.ref 55 :: r) (hS n u I A J B mk sn L xs X) Q := x_len hi rfl (Or.inl (by decide)) kk
theorem al_56 {q : Nat} {j v : Int32} (hi : mPi tbP mi pc = some (.iaload, 1)) (hj : j = nI q) (hq : q < 4) (hv : A 21 q = v) (kk : mq mi (pc + 1) ml (.int v :: r) (hS n u I A J B mk sn L xs X) Q) : mq mi pc ml (.int j :: .ref 56 :: r) (hS n u I A J B mk sn L xs X) Q := by
  subst hv
  exact x_ald2 hi rfl hj hq (by decide) kk
theorem as_56 {q : Nat} {j x : Int32} (hi : mPi tbP mi pc = some (.iastore, 1)) (hj : j = nI q) (hq : q < 4) (kk : mq mi (pc + 1) ml r (hS n u I (va_up A 21 (upd (A 21) q x)) J B mk sn L xs X) Q) : mq mi pc ml (.int x :: .int j :: .ref 56 :: r) (hS n u I A J B mk sn L xs X) Q :=
  x_ast2 hi rfl hj hq (by decide) rfl kk
theorem ln_56 (hi : mPi tbP mi pc = some (.arraylength, 1)) (kk : mq mi (pc + 1) ml (.int (nI 4) :: r) (hS n u I A J B mk sn L xs X) Q) : mq mi pc ml (.ref 56 :: r) (hS n u I A J B mk sn L xs X) Q := x_len hi rfl (Or.inl (by decide)) kk
theorem al_57 {q : Nat} {j v : Int32} (hi : mPi tbP mi pc = some (.iaload, 1)) (hj : j = nI q) (hq : q < 4) (hv : A 22 q = v) (kk : mq mi (pc + 1) ml (.int v :: r) (hS n u I A J B mk sn L xs X) Q) : mq mi pc ml (.int j :: .ref 57 :: r) (hS n u I A J B mk sn L xs X) Q := by
  subst hv
  exact x_ald2 hi rfl hj hq (by decide) kk
theorem as_57 {q : Nat} {j x : Int32} (hi : mPi tbP mi pc = some (.iastore, 1)) (hj : j = nI q) (hq : q < 4) (kk : mq mi (pc + 1) ml r (hS n u I (va_up A 22 (upd (A 22) q x)) J B mk sn L xs X) Q) : mq mi pc ml (.int x :: .int j :: .ref 57 :: r) (hS n u I A J B mk sn L xs X) Q :=
  x_ast2 hi rfl hj hq (by decide) rfl kk
theorem ln_57 (hi : mPi tbP mi pc = some (.arraylength, 1)) (kk : mq mi (pc + 1) ml (.int (nI 4) :: r) (hS n u I A J B mk sn L xs X) Q) : mq mi pc ml (.ref 57 :: r) (hS n u I A J B mk sn L xs X) Q := x_len hi rfl (Or.inl (by decide)) kk
theorem al_58 {q : Nat} {j v : Int32} (hi : mPi tbP mi pc = some (.iaload, 1)) (hj : j = nI q) (hq : q < 4) (hv : A 23 q = v) (kk : mq mi (pc + 1) ml (.int v :: r) (hS n u I A J B mk sn L xs X) Q) : mq mi pc ml (.int j :: .ref 58 :: r) (hS n u I A J B mk sn L xs X) Q := by
  subst hv
  exact x_ald2 hi rfl hj hq (by decide) kk
theorem as_58 {q : Nat} {j x : Int32} (hi : mPi tbP mi pc = some (.iastore, 1)) (hj : j = nI q) (hq : q < 4) (kk : mq mi (pc + 1) ml r (hS n u I (va_up A 23 (upd (A 23) q x)) J B mk sn L xs X) Q) : mq mi pc ml (.int x :: .int j :: .ref 58 :: r) (hS n u I A J B mk sn L xs X) Q :=
  x_ast2 hi rfl hj hq (by decide) rfl kk
theorem ln_58 (hi : mPi tbP mi pc = some (.arraylength, 1)) (kk : mq mi (pc + 1) ml (.int (nI 4) :: r) (hS n u I A J B mk sn L xs X) Q) : mq mi pc ml (.ref 58 :: r) (hS n u I A J B mk sn L xs X) Q := x_len hi rfl (Or.inl (by decide)) kk
theorem al_59 {q : Nat} {j v : Int32} (hi : mPi tbP mi pc = some (.iaload, 1)) (hj : j = nI q) (hq : q < 4) (hv : A 24 q = v) (kk : mq mi (pc + 1) ml (.int v :: r) (hS n u I A J B mk sn L xs X) Q) : mq mi pc ml (.int j :: .ref 59 :: r) (hS n u I A J B mk sn L xs X) Q := by
  subst hv
  exact x_ald2 hi rfl hj hq (by decide) kk
theorem as_59 {q : Nat} {j x : Int32} (hi : mPi tbP mi pc = some (.iastore, 1)) (hj : j = nI q) (hq : q < 4) (kk : mq mi (pc + 1) ml r (hS n u I (va_up A 24 (upd (A 24) q x)) J B mk sn L xs X) Q) : mq mi pc ml (.int x :: .int j :: .ref 59 :: r) (hS n u I A J B mk sn L xs X) Q :=
  x_ast2 hi rfl hj hq (by decide) rfl kk
theorem ln_59 (hi : mPi tbP mi pc = some (.arraylength, 1)) (kk : mq mi (pc + 1) ml (.int (nI 4) :: r) (hS n u I A J B mk sn L xs X) Q) : mq mi pc ml (.ref 59 :: r) (hS n u I A J B mk sn L xs X) Q := x_len hi rfl (Or.inl (by decide)) kk
theorem g_60_0 (hi : mPi tbP mi pc = some (.getfield i, 3)) (hf : mPf tbP (mPo tbP mi) i = some (4, 0)) (kk : mq mi (pc + 3) ml (.ref 61 :: r) (hS n u I A J B mk sn L xs X) Q) : mq mi pc ml (.ref 60 :: r) (hS n u I A J B mk sn L xs X) Q := x_get hi hf rfl rfl kk
theorem g_60_1 {v : Int32} (hi : mPi tbP mi pc = some (.getfield i, 3)) (hf : mPf tbP (mPo tbP mi) i = some (4, 1)) (hv : I 29 = v) (kk : mq mi (pc + 3) ml (.int v :: r) (hS n u I A J B mk sn L xs X) Q) : mq mi pc ml (.ref 60 :: r) (hS n u I A J B mk sn L xs X) Q := by
  subst hv
  exact x_get hi hf rfl rfl kk
theorem p_60_1 {x : Int32} (hi : mPi tbP mi pc = some (.putfield i, 3)) (hf : mPf tbP (mPo tbP mi) i = some (4, 1)) (kk : mq mi (pc + 3) ml r (hS n u (va_up I 29 x) A J B mk sn L xs X) Q) : mq mi pc ml (.int x :: .ref 60 :: r) (hS n u I A J B mk sn L xs X) Q :=
  x_put2 hi hf rfl ⟨Nat.le_of_ble_eq_true rfl, rfl, rfl⟩ rfl kk
theorem g_60_2 {v : Int32} (hi : mPi tbP mi pc = some (.getfield i, 3)) (hf : mPf tbP (mPo tbP mi) i = some (4, 2)) (hv : I 30 = v) (kk : mq mi (pc + 3) ml (.int v :: r) (hS n u I A J B mk sn L xs X) Q) : mq mi pc ml (.ref 60 :: r) (hS n u I A J B mk sn L xs X) Q := by
  subst hv
  exact x_get hi hf rfl rfl kk
theorem p_60_2 {x : Int32} (hi : mPi tbP mi pc = some (.putfield i, 3)) (hf : mPf tbP (mPo tbP mi) i = some (4, 2)) (kk : mq mi (pc + 3) ml r (hS n u (va_up I 30 x) A J B mk sn L xs X) Q) : mq mi pc ml (.int x :: .ref 60 :: r) (hS n u I A J B mk sn L xs X) Q :=
  x_put2 hi hf rfl ⟨Nat.le_of_ble_eq_true rfl, rfl, rfl⟩ rfl kk
theorem g_61_0 (hi : mPi tbP mi pc = some (.getfield i, 3)) (hf : mPf tbP (mPo tbP mi) i = some (3, 0)) (kk : mq mi (pc + 3) ml (.ref 62 :: r) (hS n u I A J B mk sn L xs X) Q) : mq mi pc ml (.ref 61 :: r) (hS n u I A J B mk sn L xs X) Q := x_get hi hf rfl rfl kk
theorem g_61_1 (hi : mPi tbP mi pc = some (.getfield i, 3)) (hf : mPf tbP (mPo tbP mi) i = some (3, 1)) (kk : mq mi (pc + 3) ml (.ref 63 :: r) (hS n u I A J B mk sn L xs X) Q) : mq mi pc ml (.ref 61 :: r) (hS n u I A J B mk sn L xs X) Q := x_get hi hf rfl rfl kk
theorem g_61_2 (hi : mPi tbP mi pc = some (.getfield i, 3)) (hf : mPf tbP (mPo tbP mi) i = some (3, 2)) (kk : mq mi (pc + 3) ml (.ref 64 :: r) (hS n u I A J B mk sn L xs X) Q) : mq mi pc ml (.ref 61 :: r) (hS n u I A J B mk sn L xs X) Q := x_get hi hf rfl rfl kk
theorem g_61_3 (hi : mPi tbP mi pc = some (.getfield i, 3)) (hf : mPf tbP (mPo tbP mi) i = some (3, 3)) (kk : mq mi (pc + 3) ml (.ref 65 :: r) (hS n u I A J B mk sn L xs X) Q) : mq mi pc ml (.ref 61 :: r) (hS n u I A J B mk sn L xs X) Q := x_get hi hf rfl rfl kk
theorem g_61_4 (hi : mPi tbP mi pc = some (.getfield i, 3)) (hf : mPf tbP (mPo tbP mi) i = some (3, 4)) (kk : mq mi (pc + 3) ml (.ref 66 :: r) (hS n u I A J B mk sn L xs X) Q) : mq mi pc ml (.ref 61 :: r) (hS n u I A J B mk sn L xs X) Q := x_get hi hf rfl rfl kk
theorem g_61_5 {v : Int32} (hi : mPi tbP mi pc = some (.getfield i, 3)) (hf : mPf tbP (mPo tbP mi) i = some (3, 5)) (hv : I 31 = v) (kk : mq mi (pc + 3) ml (.int v :: r) (hS n u I A J B mk sn L xs X) Q) : mq mi pc ml (.ref 61 :: r) (hS n u I A J B mk sn L xs X) Q := by
  subst hv
  exact x_get hi hf rfl rfl kk
theorem p_61_5 {x : Int32} (hi : mPi tbP mi pc = some (.putfield i, 3)) (hf : mPf tbP (mPo tbP mi) i = some (3, 5)) (kk : mq mi (pc + 3) ml r (hS n u (va_up I 31 x) A J B mk sn L xs X) Q) : mq mi pc ml (.int x :: .ref 61 :: r) (hS n u I A J B mk sn L xs X) Q :=
  x_put2 hi hf rfl ⟨Nat.le_of_ble_eq_true rfl, rfl, rfl⟩ rfl kk
theorem al_62 {q : Nat} {j v : Int32} (hi : mPi tbP mi pc = some (.iaload, 1)) (hj : j = nI q) (hq : q < 4) (hv : A 25 q = v) (kk : mq mi (pc + 1) ml (.int v :: r) (hS n u I A J B mk sn L xs X) Q) : mq mi pc ml (.int j :: .ref 62 :: r) (hS n u I A J B mk sn L xs X) Q := by
  subst hv
  exact x_ald2 hi rfl hj hq (by decide) kk
theorem as_62 {q : Nat} {j x : Int32} (hi : mPi tbP mi pc = some (.iastore, 1)) (hj : j = nI q) (hq : q < 4) (kk : mq mi (pc + 1) ml r (hS n u I (va_up A 25 (upd (A 25) q x)) J B mk sn L xs X) Q) : mq mi pc ml (.int x :: .int j :: .ref 62 :: r) (hS n u I A J B mk sn L xs X) Q :=
  x_ast2 hi rfl hj hq (by decide) rfl kk
theorem ln_62 (hi : mPi tbP mi pc = some (.arraylength, 1)) (kk : mq mi (pc + 1) ml (.int (nI 4) :: r) (hS n u I A J B mk sn L xs X) Q) : mq mi pc ml (.ref 62 :: r) (hS n u I A J B mk sn L xs X) Q := x_len hi rfl (Or.inl (by decide)) kk
theorem al_63 {q : Nat} {j v : Int32} (hi : mPi tbP mi pc = some (.iaload, 1)) (hj : j = nI q) (hq : q < 4) (hv : A 26 q = v) (kk : mq mi (pc + 1) ml (.int v :: r) (hS n u I A J B mk sn L xs X) Q) : mq mi pc ml (.int j :: .ref 63 :: r) (hS n u I A J B mk sn L xs X) Q := by
  subst hv
  exact x_ald2 hi rfl hj hq (by decide) kk
theorem as_63 {q : Nat} {j x : Int32} (hi : mPi tbP mi pc = some (.iastore, 1)) (hj : j = nI q) (hq : q < 4) (kk : mq mi (pc + 1) ml r (hS n u I (va_up A 26 (upd (A 26) q x)) J B mk sn L xs X) Q) : mq mi pc ml (.int x :: .int j :: .ref 63 :: r) (hS n u I A J B mk sn L xs X) Q :=
  x_ast2 hi rfl hj hq (by decide) rfl kk
theorem ln_63 (hi : mPi tbP mi pc = some (.arraylength, 1)) (kk : mq mi (pc + 1) ml (.int (nI 4) :: r) (hS n u I A J B mk sn L xs X) Q) : mq mi pc ml (.ref 63 :: r) (hS n u I A J B mk sn L xs X) Q := x_len hi rfl (Or.inl (by decide)) kk
theorem al_64 {q : Nat} {j v : Int32} (hi : mPi tbP mi pc = some (.iaload, 1)) (hj : j = nI q) (hq : q < 4) (hv : A 27 q = v) (kk : mq mi (pc + 1) ml (.int v :: r) (hS n u I A J B mk sn L xs X) Q) : mq mi pc ml (.int j :: .ref 64 :: r) (hS n u I A J B mk sn L xs X) Q := by
  subst hv
  exact x_ald2 hi rfl hj hq (by decide) kk
theorem as_64 {q : Nat} {j x : Int32} (hi : mPi tbP mi pc = some (.iastore, 1)) (hj : j = nI q) (hq : q < 4) (kk : mq mi (pc + 1) ml r (hS n u I (va_up A 27 (upd (A 27) q x)) J B mk sn L xs X) Q) : mq mi pc ml (.int x :: .int j :: .ref 64 :: r) (hS n u I A J B mk sn L xs X) Q :=
  x_ast2 hi rfl hj hq (by decide) rfl kk
theorem ln_64 (hi : mPi tbP mi pc = some (.arraylength, 1)) (kk : mq mi (pc + 1) ml (.int (nI 4) :: r) (hS n u I A J B mk sn L xs X) Q) : mq mi pc ml (.ref 64 :: r) (hS n u I A J B mk sn L xs X) Q := x_len hi rfl (Or.inl (by decide)) kk
theorem al_65 {q : Nat} {j v : Int32} (hi : mPi tbP mi pc = some (.iaload, 1)) (hj : j = nI q) (hq : q < 4) (hv : A 28 q = v) (kk : mq mi (pc + 1) ml (.int v :: r) (hS n u I A J B mk sn L xs X) Q) : mq mi pc ml (.int j :: .ref 65 :: r) (hS n u I A J B mk sn L xs X) Q := by
  subst hv
  exact x_ald2 hi rfl hj hq (by decide) kk
theorem as_65 {q : Nat} {j x : Int32} (hi : mPi tbP mi pc = some (.iastore, 1)) (hj : j = nI q) (hq : q < 4) (kk : mq mi (pc + 1) ml r (hS n u I (va_up A 28 (upd (A 28) q x)) J B mk sn L xs X) Q) : mq mi pc ml (.int x :: .int j :: .ref 65 :: r) (hS n u I A J B mk sn L xs X) Q :=
  x_ast2 hi rfl hj hq (by decide) rfl kk
theorem ln_65 (hi : mPi tbP mi pc = some (.arraylength, 1)) (kk : mq mi (pc + 1) ml (.int (nI 4) :: r) (hS n u I A J B mk sn L xs X) Q) : mq mi pc ml (.ref 65 :: r) (hS n u I A J B mk sn L xs X) Q := x_len hi rfl (Or.inl (by decide)) kk
theorem al_66 {q : Nat} {j v : Int32} (hi : mPi tbP mi pc = some (.iaload, 1)) (hj : j = nI q) (hq : q < 4) (hv : A 29 q = v) (kk : mq mi (pc + 1) ml (.int v :: r) (hS n u I A J B mk sn L xs X) Q) : mq mi pc ml (.int j :: .ref 66 :: r) (hS n u I A J B mk sn L xs X) Q := by
  subst hv
  exact x_ald2 hi rfl hj hq (by decide) kk
theorem as_66 {q : Nat} {j x : Int32} (hi : mPi tbP mi pc = some (.iastore, 1)) (hj : j = nI q) (hq : q < 4) (kk : mq mi (pc + 1) ml r (hS n u I (va_up A 29 (upd (A 29) q x)) J B mk sn L xs X) Q) : mq mi pc ml (.int x :: .int j :: .ref 66 :: r) (hS n u I A J B mk sn L xs X) Q :=
  x_ast2 hi rfl hj hq (by decide) rfl kk
theorem ln_66 (hi : mPi tbP mi pc = some (.arraylength, 1)) (kk : mq mi (pc + 1) ml (.int (nI 4) :: r) (hS n u I A J B mk sn L xs X) Q) : mq mi pc ml (.ref 66 :: r) (hS n u I A J B mk sn L xs X) Q := x_len hi rfl (Or.inl (by decide)) kk
theorem g_67_0 {v : Int32} (hi : mPi tbP mi pc = some (.getfield i, 3)) (hf : mPf tbP (mPo tbP mi) i = some (8, 0)) (hv : I 60 = v) (kk : mq mi (pc + 3) ml (.int v :: r) (hS n u I A J B mk sn L xs X) Q) : mq mi pc ml (.ref 67 :: r) (hS n u I A J B mk sn L xs X) Q := by
  subst hv
  exact x_get hi hf rfl rfl kk
theorem p_67_0 {x : Int32} (hi : mPi tbP mi pc = some (.putfield i, 3)) (hf : mPf tbP (mPo tbP mi) i = some (8, 0)) (kk : mq mi (pc + 3) ml r (hS n u (va_up I 60 x) A J B mk sn L xs X) Q) : mq mi pc ml (.int x :: .ref 67 :: r) (hS n u I A J B mk sn L xs X) Q :=
  x_put2 hi hf rfl ⟨Nat.le_of_ble_eq_true rfl, rfl, rfl⟩ rfl kk
theorem g_67_1 (hi : mPi tbP mi pc = some (.getfield i, 3)) (hf : mPf tbP (mPo tbP mi) i = some (8, 1)) (kk : mq mi (pc + 3) ml (.ref 68 :: r) (hS n u I A J B mk sn L xs X) Q) : mq mi pc ml (.ref 67 :: r) (hS n u I A J B mk sn L xs X) Q := x_get hi hf rfl rfl kk
theorem g_67_2 {v : Int32} (hi : mPi tbP mi pc = some (.getfield i, 3)) (hf : mPf tbP (mPo tbP mi) i = some (8, 2)) (hv : I 61 = v) (kk : mq mi (pc + 3) ml (.int v :: r) (hS n u I A J B mk sn L xs X) Q) : mq mi pc ml (.ref 67 :: r) (hS n u I A J B mk sn L xs X) Q := by
  subst hv
  exact x_get hi hf rfl rfl kk
theorem p_67_2 {x : Int32} (hi : mPi tbP mi pc = some (.putfield i, 3)) (hf : mPf tbP (mPo tbP mi) i = some (8, 2)) (hz : x = 0 ∨ x = 1) (kk : mq mi (pc + 3) ml r (hS n u (va_up I 61 x) A J B mk sn L xs X) Q) : mq mi pc ml (.int x :: .ref 67 :: r) (hS n u I A J B mk sn L xs X) Q :=
  x_put2 hi hf rfl ⟨Nat.le_of_ble_eq_true rfl, by simp [mfit, hz, show mPy tbP 8 2 = .boolean from rfl], rfl⟩ rfl kk
theorem g_67_3 {v : Int32} (hi : mPi tbP mi pc = some (.getfield i, 3)) (hf : mPf tbP (mPo tbP mi) i = some (8, 3)) (hv : I 62 = v) (kk : mq mi (pc + 3) ml (.int v :: r) (hS n u I A J B mk sn L xs X) Q) : mq mi pc ml (.ref 67 :: r) (hS n u I A J B mk sn L xs X) Q := by
  subst hv
  exact x_get hi hf rfl rfl kk
theorem p_67_3 {x : Int32} (hi : mPi tbP mi pc = some (.putfield i, 3)) (hf : mPf tbP (mPo tbP mi) i = some (8, 3)) (kk : mq mi (pc + 3) ml r (hS n u (va_up I 62 x) A J B mk sn L xs X) Q) : mq mi pc ml (.int x :: .ref 67 :: r) (hS n u I A J B mk sn L xs X) Q :=
  x_put2 hi hf rfl ⟨Nat.le_of_ble_eq_true rfl, rfl, rfl⟩ rfl kk
theorem g_67_4 {v : Int32} (hi : mPi tbP mi pc = some (.getfield i, 3)) (hf : mPf tbP (mPo tbP mi) i = some (8, 4)) (hv : I 63 = v) (kk : mq mi (pc + 3) ml (.int v :: r) (hS n u I A J B mk sn L xs X) Q) : mq mi pc ml (.ref 67 :: r) (hS n u I A J B mk sn L xs X) Q := by
  subst hv
  exact x_get hi hf rfl rfl kk
theorem p_67_4 {x : Int32} (hi : mPi tbP mi pc = some (.putfield i, 3)) (hf : mPf tbP (mPo tbP mi) i = some (8, 4)) (kk : mq mi (pc + 3) ml r (hS n u (va_up I 63 x) A J B mk sn L xs X) Q) : mq mi pc ml (.int x :: .ref 67 :: r) (hS n u I A J B mk sn L xs X) Q :=
  x_put2 hi hf rfl ⟨Nat.le_of_ble_eq_true rfl, rfl, rfl⟩ rfl kk
theorem g_67_5 (hi : mPi tbP mi pc = some (.getfield i, 3)) (hf : mPf tbP (mPo tbP mi) i = some (8, 5)) (kk : mq mi (pc + 3) ml (.ref 69 :: r) (hS n u I A J B mk sn L xs X) Q) : mq mi pc ml (.ref 67 :: r) (hS n u I A J B mk sn L xs X) Q := x_get hi hf rfl rfl kk
theorem g_67_6 {v : Int32} (hi : mPi tbP mi pc = some (.getfield i, 3)) (hf : mPf tbP (mPo tbP mi) i = some (8, 6)) (hv : I 64 = v) (kk : mq mi (pc + 3) ml (.int v :: r) (hS n u I A J B mk sn L xs X) Q) : mq mi pc ml (.ref 67 :: r) (hS n u I A J B mk sn L xs X) Q := by
  subst hv
  exact x_get hi hf rfl rfl kk
theorem p_67_6 {x : Int32} (hi : mPi tbP mi pc = some (.putfield i, 3)) (hf : mPf tbP (mPo tbP mi) i = some (8, 6)) (kk : mq mi (pc + 3) ml r (hS n u (va_up I 64 x) A J B mk sn L xs X) Q) : mq mi pc ml (.int x :: .ref 67 :: r) (hS n u I A J B mk sn L xs X) Q :=
  x_put2 hi hf rfl ⟨Nat.le_of_ble_eq_true rfl, rfl, rfl⟩ rfl kk
theorem g_67_7 (hi : mPi tbP mi pc = some (.getfield i, 3)) (hf : mPf tbP (mPo tbP mi) i = some (8, 7)) (kk : mq mi (pc + 3) ml (.ref 70 :: r) (hS n u I A J B mk sn L xs X) Q) : mq mi pc ml (.ref 67 :: r) (hS n u I A J B mk sn L xs X) Q := x_get hi hf rfl rfl kk
theorem g_67_8 (hi : mPi tbP mi pc = some (.getfield i, 3)) (hf : mPf tbP (mPo tbP mi) i = some (8, 8)) (kk : mq mi (pc + 3) ml (.ref 71 :: r) (hS n u I A J B mk sn L xs X) Q) : mq mi pc ml (.ref 67 :: r) (hS n u I A J B mk sn L xs X) Q := x_get hi hf rfl rfl kk
theorem g_67_9 {v : Int32} (hi : mPi tbP mi pc = some (.getfield i, 3)) (hf : mPf tbP (mPo tbP mi) i = some (8, 9)) (hv : I 65 = v) (kk : mq mi (pc + 3) ml (.int v :: r) (hS n u I A J B mk sn L xs X) Q) : mq mi pc ml (.ref 67 :: r) (hS n u I A J B mk sn L xs X) Q := by
  subst hv
  exact x_get hi hf rfl rfl kk
theorem p_67_9 {x : Int32} (hi : mPi tbP mi pc = some (.putfield i, 3)) (hf : mPf tbP (mPo tbP mi) i = some (8, 9)) (kk : mq mi (pc + 3) ml r (hS n u (va_up I 65 x) A J B mk sn L xs X) Q) : mq mi pc ml (.int x :: .ref 67 :: r) (hS n u I A J B mk sn L xs X) Q :=
  x_put2 hi hf rfl ⟨Nat.le_of_ble_eq_true rfl, rfl, rfl⟩ rfl kk
theorem g_67_10 {v : Int32} (hi : mPi tbP mi pc = some (.getfield i, 3)) (hf : mPf tbP (mPo tbP mi) i = some (8, 10)) (hv : I 66 = v) (kk : mq mi (pc + 3) ml (.int v :: r) (hS n u I A J B mk sn L xs X) Q) : mq mi pc ml (.ref 67 :: r) (hS n u I A J B mk sn L xs X) Q := by
  subst hv
  exact x_get hi hf rfl rfl kk
theorem p_67_10 {x : Int32} (hi : mPi tbP mi pc = some (.putfield i, 3)) (hf : mPf tbP (mPo tbP mi) i = some (8, 10)) (kk : mq mi (pc + 3) ml r (hS n u (va_up I 66 x) A J B mk sn L xs X) Q) : mq mi pc ml (.int x :: .ref 67 :: r) (hS n u I A J B mk sn L xs X) Q :=
  x_put2 hi hf rfl ⟨Nat.le_of_ble_eq_true rfl, rfl, rfl⟩ rfl kk
theorem g_67_11 {v : Int32} (hi : mPi tbP mi pc = some (.getfield i, 3)) (hf : mPf tbP (mPo tbP mi) i = some (8, 11)) (hv : I 67 = v) (kk : mq mi (pc + 3) ml (.int v :: r) (hS n u I A J B mk sn L xs X) Q) : mq mi pc ml (.ref 67 :: r) (hS n u I A J B mk sn L xs X) Q := by
  subst hv
  exact x_get hi hf rfl rfl kk
theorem p_67_11 {x : Int32} (hi : mPi tbP mi pc = some (.putfield i, 3)) (hf : mPf tbP (mPo tbP mi) i = some (8, 11)) (kk : mq mi (pc + 3) ml r (hS n u (va_up I 67 x) A J B mk sn L xs X) Q) : mq mi pc ml (.int x :: .ref 67 :: r) (hS n u I A J B mk sn L xs X) Q :=
  x_put2 hi hf rfl ⟨Nat.le_of_ble_eq_true rfl, rfl, rfl⟩ rfl kk
theorem g_67_12 (hi : mPi tbP mi pc = some (.getfield i, 3)) (hf : mPf tbP (mPo tbP mi) i = some (8, 12)) (kk : mq mi (pc + 3) ml (.ref 72 :: r) (hS n u I A J B mk sn L xs X) Q) : mq mi pc ml (.ref 67 :: r) (hS n u I A J B mk sn L xs X) Q := x_get hi hf rfl rfl kk
theorem g_67_13 {v : Int32} (hi : mPi tbP mi pc = some (.getfield i, 3)) (hf : mPf tbP (mPo tbP mi) i = some (8, 13)) (hv : I 68 = v) (kk : mq mi (pc + 3) ml (.int v :: r) (hS n u I A J B mk sn L xs X) Q) : mq mi pc ml (.ref 67 :: r) (hS n u I A J B mk sn L xs X) Q := by
  subst hv
  exact x_get hi hf rfl rfl kk
theorem p_67_13 {x : Int32} (hi : mPi tbP mi pc = some (.putfield i, 3)) (hf : mPf tbP (mPo tbP mi) i = some (8, 13)) (kk : mq mi (pc + 3) ml r (hS n u (va_up I 68 x) A J B mk sn L xs X) Q) : mq mi pc ml (.int x :: .ref 67 :: r) (hS n u I A J B mk sn L xs X) Q :=
  x_put2 hi hf rfl ⟨Nat.le_of_ble_eq_true rfl, rfl, rfl⟩ rfl kk
theorem g_67_14 (hi : mPi tbP mi pc = some (.getfield i, 3)) (hf : mPf tbP (mPo tbP mi) i = some (8, 14)) (kk : mq mi (pc + 3) ml (.ref 73 :: r) (hS n u I A J B mk sn L xs X) Q) : mq mi pc ml (.ref 67 :: r) (hS n u I A J B mk sn L xs X) Q := x_get hi hf rfl rfl kk
theorem g_67_15 (hi : mPi tbP mi pc = some (.getfield i, 3)) (hf : mPf tbP (mPo tbP mi) i = some (8, 15)) (kk : mq mi (pc + 3) ml (.ref 74 :: r) (hS n u I A J B mk sn L xs X) Q) : mq mi pc ml (.ref 67 :: r) (hS n u I A J B mk sn L xs X) Q := x_get hi hf rfl rfl kk
theorem g_67_16 (hi : mPi tbP mi pc = some (.getfield i, 3)) (hf : mPf tbP (mPo tbP mi) i = some (8, 16)) (kk : mq mi (pc + 3) ml (.ref 75 :: r) (hS n u I A J B mk sn L xs X) Q) : mq mi pc ml (.ref 67 :: r) (hS n u I A J B mk sn L xs X) Q := x_get hi hf rfl rfl kk
theorem g_67_17 {v : Int32} (hi : mPi tbP mi pc = some (.getfield i, 3)) (hf : mPf tbP (mPo tbP mi) i = some (8, 17)) (hv : I 69 = v) (kk : mq mi (pc + 3) ml (.int v :: r) (hS n u I A J B mk sn L xs X) Q) : mq mi pc ml (.ref 67 :: r) (hS n u I A J B mk sn L xs X) Q := by
  subst hv
  exact x_get hi hf rfl rfl kk
theorem p_67_17 {x : Int32} (hi : mPi tbP mi pc = some (.putfield i, 3)) (hf : mPf tbP (mPo tbP mi) i = some (8, 17)) (kk : mq mi (pc + 3) ml r (hS n u (va_up I 69 x) A J B mk sn L xs X) Q) : mq mi pc ml (.int x :: .ref 67 :: r) (hS n u I A J B mk sn L xs X) Q :=
  x_put2 hi hf rfl ⟨Nat.le_of_ble_eq_true rfl, rfl, rfl⟩ rfl kk
theorem g_67_18 {v : Int32} (hi : mPi tbP mi pc = some (.getfield i, 3)) (hf : mPf tbP (mPo tbP mi) i = some (8, 18)) (hv : I 70 = v) (kk : mq mi (pc + 3) ml (.int v :: r) (hS n u I A J B mk sn L xs X) Q) : mq mi pc ml (.ref 67 :: r) (hS n u I A J B mk sn L xs X) Q := by
  subst hv
  exact x_get hi hf rfl rfl kk
theorem p_67_18 {x : Int32} (hi : mPi tbP mi pc = some (.putfield i, 3)) (hf : mPf tbP (mPo tbP mi) i = some (8, 18)) (kk : mq mi (pc + 3) ml r (hS n u (va_up I 70 x) A J B mk sn L xs X) Q) : mq mi pc ml (.int x :: .ref 67 :: r) (hS n u I A J B mk sn L xs X) Q :=
  x_put2 hi hf rfl ⟨Nat.le_of_ble_eq_true rfl, rfl, rfl⟩ rfl kk
theorem g_67_19 {v : Int32} (hi : mPi tbP mi pc = some (.getfield i, 3)) (hf : mPf tbP (mPo tbP mi) i = some (8, 19)) (hv : I 71 = v) (kk : mq mi (pc + 3) ml (.int v :: r) (hS n u I A J B mk sn L xs X) Q) : mq mi pc ml (.ref 67 :: r) (hS n u I A J B mk sn L xs X) Q := by
  subst hv
  exact x_get hi hf rfl rfl kk
theorem p_67_19 {x : Int32} (hi : mPi tbP mi pc = some (.putfield i, 3)) (hf : mPf tbP (mPo tbP mi) i = some (8, 19)) (kk : mq mi (pc + 3) ml r (hS n u (va_up I 71 x) A J B mk sn L xs X) Q) : mq mi pc ml (.int x :: .ref 67 :: r) (hS n u I A J B mk sn L xs X) Q :=
  x_put2 hi hf rfl ⟨Nat.le_of_ble_eq_true rfl, rfl, rfl⟩ rfl kk
theorem al_68 {q : Nat} {j v : Int32} (hi : mPi tbP mi pc = some (.iaload, 1)) (hj : j = nI q) (hq : q < 2048) (hv : A 50 q = v) (kk : mq mi (pc + 1) ml (.int v :: r) (hS n u I A J B mk sn L xs X) Q) : mq mi pc ml (.int j :: .ref 68 :: r) (hS n u I A J B mk sn L xs X) Q := by
  subst hv
  exact x_ald2 hi rfl hj hq (by decide) kk
theorem as_68 {q : Nat} {j x : Int32} (hi : mPi tbP mi pc = some (.iastore, 1)) (hj : j = nI q) (hq : q < 2048) (kk : mq mi (pc + 1) ml r (hS n u I (va_up A 50 (upd (A 50) q x)) J B mk sn L xs X) Q) : mq mi pc ml (.int x :: .int j :: .ref 68 :: r) (hS n u I A J B mk sn L xs X) Q :=
  x_ast2 hi rfl hj hq (by decide) rfl kk
theorem ln_68 (hi : mPi tbP mi pc = some (.arraylength, 1)) (kk : mq mi (pc + 1) ml (.int (nI 2048) :: r) (hS n u I A J B mk sn L xs X) Q) : mq mi pc ml (.ref 68 :: r) (hS n u I A J B mk sn L xs X) Q := x_len hi rfl (Or.inl (by decide)) kk
theorem al_69 {q : Nat} {j v : Int32} (hi : mPi tbP mi pc = some (.iaload, 1)) (hj : j = nI q) (hq : q < 20) (hv : A 51 q = v) (kk : mq mi (pc + 1) ml (.int v :: r) (hS n u I A J B mk sn L xs X) Q) : mq mi pc ml (.int j :: .ref 69 :: r) (hS n u I A J B mk sn L xs X) Q := by
  subst hv
  exact x_ald2 hi rfl hj hq (by decide) kk
theorem as_69 {q : Nat} {j x : Int32} (hi : mPi tbP mi pc = some (.iastore, 1)) (hj : j = nI q) (hq : q < 20) (kk : mq mi (pc + 1) ml r (hS n u I (va_up A 51 (upd (A 51) q x)) J B mk sn L xs X) Q) : mq mi pc ml (.int x :: .int j :: .ref 69 :: r) (hS n u I A J B mk sn L xs X) Q :=
  x_ast2 hi rfl hj hq (by decide) rfl kk
theorem ln_69 (hi : mPi tbP mi pc = some (.arraylength, 1)) (kk : mq mi (pc + 1) ml (.int (nI 20) :: r) (hS n u I A J B mk sn L xs X) Q) : mq mi pc ml (.ref 69 :: r) (hS n u I A J B mk sn L xs X) Q := x_len hi rfl (Or.inl (by decide)) kk
theorem al_70 {q : Nat} {j v : Int32} (hi : mPi tbP mi pc = some (.iaload, 1)) (hj : j = nI q) (hq : q < 20) (hv : A 52 q = v) (kk : mq mi (pc + 1) ml (.int v :: r) (hS n u I A J B mk sn L xs X) Q) : mq mi pc ml (.int j :: .ref 70 :: r) (hS n u I A J B mk sn L xs X) Q := by
  subst hv
  exact x_ald2 hi rfl hj hq (by decide) kk
theorem as_70 {q : Nat} {j x : Int32} (hi : mPi tbP mi pc = some (.iastore, 1)) (hj : j = nI q) (hq : q < 20) (kk : mq mi (pc + 1) ml r (hS n u I (va_up A 52 (upd (A 52) q x)) J B mk sn L xs X) Q) : mq mi pc ml (.int x :: .int j :: .ref 70 :: r) (hS n u I A J B mk sn L xs X) Q :=
  x_ast2 hi rfl hj hq (by decide) rfl kk
theorem ln_70 (hi : mPi tbP mi pc = some (.arraylength, 1)) (kk : mq mi (pc + 1) ml (.int (nI 20) :: r) (hS n u I A J B mk sn L xs X) Q) : mq mi pc ml (.ref 70 :: r) (hS n u I A J B mk sn L xs X) Q := x_len hi rfl (Or.inl (by decide)) kk
theorem al_71 {q : Nat} {j v : Int32} (hi : mPi tbP mi pc = some (.iaload, 1)) (hj : j = nI q) (hq : q < 20) (hv : A 53 q = v) (kk : mq mi (pc + 1) ml (.int v :: r) (hS n u I A J B mk sn L xs X) Q) : mq mi pc ml (.int j :: .ref 71 :: r) (hS n u I A J B mk sn L xs X) Q := by
  subst hv
  exact x_ald2 hi rfl hj hq (by decide) kk
theorem as_71 {q : Nat} {j x : Int32} (hi : mPi tbP mi pc = some (.iastore, 1)) (hj : j = nI q) (hq : q < 20) (kk : mq mi (pc + 1) ml r (hS n u I (va_up A 53 (upd (A 53) q x)) J B mk sn L xs X) Q) : mq mi pc ml (.int x :: .int j :: .ref 71 :: r) (hS n u I A J B mk sn L xs X) Q :=
  x_ast2 hi rfl hj hq (by decide) rfl kk
theorem ln_71 (hi : mPi tbP mi pc = some (.arraylength, 1)) (kk : mq mi (pc + 1) ml (.int (nI 20) :: r) (hS n u I A J B mk sn L xs X) Q) : mq mi pc ml (.ref 71 :: r) (hS n u I A J B mk sn L xs X) Q := x_len hi rfl (Or.inl (by decide)) kk
theorem al_72 {q : Nat} {j v : Int32} (hi : mPi tbP mi pc = some (.iaload, 1)) (hj : j = nI q) (hq : q < 600) (hv : A 54 q = v) (kk : mq mi (pc + 1) ml (.int v :: r) (hS n u I A J B mk sn L xs X) Q) : mq mi pc ml (.int j :: .ref 72 :: r) (hS n u I A J B mk sn L xs X) Q := by
  subst hv
  exact x_ald2 hi rfl hj hq (by decide) kk
theorem as_72 {q : Nat} {j x : Int32} (hi : mPi tbP mi pc = some (.iastore, 1)) (hj : j = nI q) (hq : q < 600) (kk : mq mi (pc + 1) ml r (hS n u I (va_up A 54 (upd (A 54) q x)) J B mk sn L xs X) Q) : mq mi pc ml (.int x :: .int j :: .ref 72 :: r) (hS n u I A J B mk sn L xs X) Q :=
  x_ast2 hi rfl hj hq (by decide) rfl kk
theorem ln_72 (hi : mPi tbP mi pc = some (.arraylength, 1)) (kk : mq mi (pc + 1) ml (.int (nI 600) :: r) (hS n u I A J B mk sn L xs X) Q) : mq mi pc ml (.ref 72 :: r) (hS n u I A J B mk sn L xs X) Q := x_len hi rfl (Or.inl (by decide)) kk
theorem al_73 {q : Nat} {j v : Int32} (hi : mPi tbP mi pc = some (.iaload, 1)) (hj : j = nI q) (hq : q < 96) (hv : A 55 q = v) (kk : mq mi (pc + 1) ml (.int v :: r) (hS n u I A J B mk sn L xs X) Q) : mq mi pc ml (.int j :: .ref 73 :: r) (hS n u I A J B mk sn L xs X) Q := by
  subst hv
  exact x_ald2 hi rfl hj hq (by decide) kk
theorem as_73 {q : Nat} {j x : Int32} (hi : mPi tbP mi pc = some (.iastore, 1)) (hj : j = nI q) (hq : q < 96) (kk : mq mi (pc + 1) ml r (hS n u I (va_up A 55 (upd (A 55) q x)) J B mk sn L xs X) Q) : mq mi pc ml (.int x :: .int j :: .ref 73 :: r) (hS n u I A J B mk sn L xs X) Q :=
  x_ast2 hi rfl hj hq (by decide) rfl kk
theorem ln_73 (hi : mPi tbP mi pc = some (.arraylength, 1)) (kk : mq mi (pc + 1) ml (.int (nI 96) :: r) (hS n u I A J B mk sn L xs X) Q) : mq mi pc ml (.ref 73 :: r) (hS n u I A J B mk sn L xs X) Q := x_len hi rfl (Or.inl (by decide)) kk
theorem al_74 {q : Nat} {j v : Int32} (hi : mPi tbP mi pc = some (.iaload, 1)) (hj : j = nI q) (hq : q < 32) (hv : A 56 q = v) (kk : mq mi (pc + 1) ml (.int v :: r) (hS n u I A J B mk sn L xs X) Q) : mq mi pc ml (.int j :: .ref 74 :: r) (hS n u I A J B mk sn L xs X) Q := by
  subst hv
  exact x_ald2 hi rfl hj hq (by decide) kk
theorem as_74 {q : Nat} {j x : Int32} (hi : mPi tbP mi pc = some (.iastore, 1)) (hj : j = nI q) (hq : q < 32) (kk : mq mi (pc + 1) ml r (hS n u I (va_up A 56 (upd (A 56) q x)) J B mk sn L xs X) Q) : mq mi pc ml (.int x :: .int j :: .ref 74 :: r) (hS n u I A J B mk sn L xs X) Q :=
  x_ast2 hi rfl hj hq (by decide) rfl kk
theorem ln_74 (hi : mPi tbP mi pc = some (.arraylength, 1)) (kk : mq mi (pc + 1) ml (.int (nI 32) :: r) (hS n u I A J B mk sn L xs X) Q) : mq mi pc ml (.ref 74 :: r) (hS n u I A J B mk sn L xs X) Q := x_len hi rfl (Or.inl (by decide)) kk
theorem al_75 {q : Nat} {j v : Int32} (hi : mPi tbP mi pc = some (.iaload, 1)) (hj : j = nI q) (hq : q < 40) (hv : A 57 q = v) (kk : mq mi (pc + 1) ml (.int v :: r) (hS n u I A J B mk sn L xs X) Q) : mq mi pc ml (.int j :: .ref 75 :: r) (hS n u I A J B mk sn L xs X) Q := by
  subst hv
  exact x_ald2 hi rfl hj hq (by decide) kk
theorem as_75 {q : Nat} {j x : Int32} (hi : mPi tbP mi pc = some (.iastore, 1)) (hj : j = nI q) (hq : q < 40) (kk : mq mi (pc + 1) ml r (hS n u I (va_up A 57 (upd (A 57) q x)) J B mk sn L xs X) Q) : mq mi pc ml (.int x :: .int j :: .ref 75 :: r) (hS n u I A J B mk sn L xs X) Q :=
  x_ast2 hi rfl hj hq (by decide) rfl kk
theorem ln_75 (hi : mPi tbP mi pc = some (.arraylength, 1)) (kk : mq mi (pc + 1) ml (.int (nI 40) :: r) (hS n u I A J B mk sn L xs X) Q) : mq mi pc ml (.ref 75 :: r) (hS n u I A J B mk sn L xs X) Q := x_len hi rfl (Or.inl (by decide)) kk
theorem aal {q a : Nat} {j : Int32} (hi : mPi tbP mi pc = some (.aaload, 1)) (hj : j = nI q) (hq : q < 4) (ha : 13 + 5 * q = a) (kk : mq mi (pc + 1) ml (.ref a :: r) (hS n u I A J B mk sn L xs X) Q) : mq mi pc ml (.int j :: .ref 12 :: r) (hS n u I A J B mk sn L xs X) Q := by
  subst hj ha
  refine x_step (pc' := pc + 1) (ml' := ml) (st' := .ref (13 + 5 * q) :: r) (hp' := hS n u I A J B mk sn L xs X) hi rfl rfl ?_ kk
  match q, hq with
  | 0, _ => rfl
  | 1, _ => rfl
  | 2, _ => rfl
  | 3, _ => rfl
end S25b
