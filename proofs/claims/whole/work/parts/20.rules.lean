/-! Rules for runs of the small machine. -/
def mq (mi pc : Nat) (ml : mLs) (st : List Value) (hp : mHp) (Q : mO × mHp → Prop) : Prop := ∃ n r, mrun tbP tbCM tbSM n mi pc ml st hp = some r ∧ Q r
theorem mrun_up {P : mP} {CM SM : Nat} : ∀ (n mi pc : Nat) (ml : mLs) (st : List Value) (hp : mHp) (r : mO × mHp), mrun P CM SM n mi pc ml st hp = some r → mrun P CM SM (n + 1) mi pc ml st hp = some r := by
  intro n
  induction n with
  | zero => intro mi pc ml st hp r h; simp only [mrun] at h; cases h
  | succ n ih =>
    intro mi pc ml st hp r h
    rw [mrun] at h ⊢
    split at h
    · next ins len hi =>
      try simp only [hi]
      split at h
      · next v hv => (try simp only [hv]); exact h
      · next hv =>
        (try simp only [hv])
        split at h
        · next j as r0 hc =>
          (try simp only [hc])
          split at h
          · next hcond =>
            (try rw [if_pos hcond])
            split at h
            · next v hp' hr =>
              rw [ih _ _ _ _ _ _ hr]
              exact ih _ _ _ _ _ _ h
            · next x hp' hr =>
              rw [ih _ _ _ _ _ _ hr]
              try simp only
              split at h
              · next t ht => (try simp only [ht]); exact ih _ _ _ _ _ _ h
              · next ht => (try simp only [ht]); exact h
            · cases h
          · cases h
        · next hc =>
          (try simp only [hc])
          split at h
          · next r0 ho =>
            (try simp only [ho])
            split at h
            · next hcond => (try rw [if_pos hcond]); exact ih _ _ _ _ _ _ h
            · cases h
          · next ho =>
            (try simp only [ho])
            split at h
            · next ci k ht => (try simp only [ht]); exact h
            · next ht =>
              (try simp only [ht])
              split at h
              · next hl =>
                (try rw [if_pos hl])
                split at h
                · next hs => (try simp only [hs]); exact ih _ _ _ _ _ _ h
                · cases h
              · cases h
    · cases h
theorem mrun_le {P : mP} {CM SM : Nat} {n n' mi pc : Nat} {ml : mLs} {st : List Value} {hp : mHp} {r : mO × mHp} (h : mrun P CM SM n mi pc ml st hp = some r) (hn : n ≤ n') : mrun P CM SM n' mi pc ml st hp = some r := by
  obtain ⟨k, rfl⟩ := Nat.exists_eq_add_of_le hn
  clear hn
  induction k with
  | zero => exact h
  | succ k ih => exact mrun_up _ _ _ _ _ _ _ ih
/-- the steps that are neither a return, nor a call, nor a new -/
def mnoc : Instr → Bool
  | .return_ | .ireturn | .areturn | .lreturn | .invokestatic _ | .invokevirtual _ | .invokespecial _ | .new _ => false
  | _ => true
section MX
variable {mi pc : Nat} {ml : mLs} {st : List Value} {hp : mHp} {Q : mO × mHp → Prop}
theorem mnoc_ok {ins : Instr} (h : mnoc ins = true) : mretv tbP mi ins st = none ∧ mcall tbP (mPo tbP mi) ins st hp = none ∧ mobj tbP (mPo tbP mi) ins st = none ∧ mthr tbP mi ins pc = none := by
  cases ins <;> first | exact ⟨rfl, rfl, rfl, rfl⟩ | cases h
theorem mq_mono {Q' : mO × mHp → Prop} (h : ∀ r, Q r → Q' r) (k : mq mi pc ml st hp Q) : mq mi pc ml st hp Q' := by
  obtain ⟨n, r, h1, h2⟩ := k
  exact ⟨n, r, h1, h r h2⟩
theorem x_step {ins : Instr} {len pc' : Nat} {ml' : mLs} {st' : List Value} {hp' : mHp} (hi : mPi tbP mi pc = some (ins, len)) (hn : mnoc ins = true) (hl : mlok ins len = true)
    (hs : mstep tbP tbCM tbSM (mPz tbP mi) (mPo tbP mi) ins pc ml st hp = some (pc', ml', st', hp')) (k : mq mi pc' ml' st' hp' Q) : mq mi pc ml st hp Q := by
  obtain ⟨n, r, h1, h2⟩ := k
  obtain ⟨e1, e2, e3, e4⟩ := mnoc_ok (mi := mi) (pc := pc) (st := st) (hp := hp) hn
  refine ⟨n + 1, r, ?_, h2⟩
  rw [mrun]
  simp only [hi, e1, e2, e3, e4, hl, if_pos, hs]
  exact h1
theorem x_ret {ins : Instr} {v : Option Value} (hi : mPi tbP mi pc = some (ins, 1)) (hv : mretv tbP mi ins st = some v) (k : Q (.inl v, hp)) : mq mi pc ml st hp Q := by
  refine ⟨1, _, ?_, k⟩
  rw [mrun]
  simp only [hi, hv, if_pos]
theorem x_obj {ins : Instr} {r : List Value} (hi : mPi tbP mi pc = some (ins, 3)) (e1 : mretv tbP mi ins st = none) (e2 : mcall tbP (mPo tbP mi) ins st hp = none) (ho : mobj tbP (mPo tbP mi) ins st = some r) (hr : 1 ≤ (mPw tbP mi).1 ∧ mwd r + 12 ≤ (mPw tbP mi).2)
    (k : mq mi (pc + 3) ml r hp Q) : mq mi pc ml st hp Q := by
  obtain ⟨n, r', h1, h2⟩ := k
  refine ⟨n + 1, r', ?_, h2⟩
  rw [mrun]
  simp only [hi, e1, e2, ho]
  rw [if_pos ⟨trivial, hr⟩]
  exact h1
theorem x_new {i len pc' : Nat} {ml' : mLs} {st' : List Value} {hp' : mHp} (hi : mPi tbP mi pc = some (.new i, len)) (ht : mPx tbP (mPo tbP mi) i = none) (hl : mlok (.new i) len = true)
    (hs : mstep tbP tbCM tbSM (mPz tbP mi) (mPo tbP mi) (.new i) pc ml st hp = some (pc', ml', st', hp')) (k : mq mi pc' ml' st' hp' Q) : mq mi pc ml st hp Q := by
  obtain ⟨n, r, h1, h2⟩ := k
  have e1 : mretv tbP mi (.new i) st = none := rfl
  have e2 : mcall tbP (mPo tbP mi) (.new i) st hp = none := rfl
  have e3 : mobj tbP (mPo tbP mi) (.new i) st = none := rfl
  have e4 : mthr tbP mi (.new i) pc = none := by simp only [mthr, ht]
  refine ⟨n + 1, r, ?_, h2⟩
  rw [mrun]
  simp only [hi, e1, e2, e3, e4, hl, if_pos, hs]
  exact h1
/-- a call that may return or throw -/
theorem x_callX {ins : Instr} {j : Nat} {as r : List Value} {Q' : mO × mHp → Prop} (hi : mPi tbP mi pc = some (ins, 3)) (e1 : mretv tbP mi ins st = none) (hc : mcall tbP (mPo tbP mi) ins st hp = some (j, as, r))
    (hr : (mPw tbP j).1 + 1 ≤ (mPw tbP mi).1 ∧ mwd r + (mPl tbP j + 11) + (mPw tbP j).2 ≤ (mPw tbP mi).2 ∧ (margs as).length ≤ mPl tbP j)
    (hq : mq j 0 (ment (mPl tbP j) as) [] hp Q') (kv : ∀ v hp', Q' (.inl v, hp') → mq mi (pc + 3) ml (v.toList ++ r) hp' Q)
    (kx : ∀ x hp', Q' (.inr x, hp') → (match mfind tbP (mPo tbP mi) (mcls hp' x) pc (mPh tbP mi) with
      | some t => mq mi t ml [.ref x] hp' Q
      | none => mPh tbP mi = [] ∧ Q (.inr x, hp'))) : mq mi pc ml st hp Q := by
  obtain ⟨n1, ⟨ro, hp'⟩, h1, h2⟩ := hq
  cases ro with
  | inl v =>
    obtain ⟨n2, r2, h3, h4⟩ := kv v hp' h2
    refine ⟨max n1 n2 + 1, r2, ?_, h4⟩
    rw [mrun]
    simp only [hi, e1, hc]
    rw [if_pos ⟨trivial, hr⟩, mrun_le h1 (Nat.le_max_left _ _)]
    exact mrun_le h3 (Nat.le_max_right _ _)
  | inr x =>
    have h5 := kx x hp' h2
    cases hf : mfind tbP (mPo tbP mi) (mcls hp' x) pc (mPh tbP mi) with
    | some t =>
      rw [hf] at h5
      obtain ⟨n2, r2, h3, h4⟩ := h5
      refine ⟨max n1 n2 + 1, r2, ?_, h4⟩
      rw [mrun]
      simp only [hi, e1, hc]
      rw [if_pos ⟨trivial, hr⟩, mrun_le h1 (Nat.le_max_left _ _)]
      simp only [hf]
      exact mrun_le h3 (Nat.le_max_right _ _)
    | none =>
      rw [hf] at h5
      obtain ⟨h6, h7⟩ := h5
      refine ⟨n1 + 1, _, ?_, h7⟩
      rw [mrun]
      simp only [hi, e1, hc]
      rw [if_pos ⟨trivial, hr⟩, h1]
      simp only [hf]
      rw [if_pos h6]
/-- a call that returns -/
theorem x_call {ins : Instr} {j : Nat} {as r : List Value} {v : Option Value} {hp' : mHp} (hi : mPi tbP mi pc = some (ins, 3)) (e1 : mretv tbP mi ins st = none) (hc : mcall tbP (mPo tbP mi) ins st hp = some (j, as, r))
    (hr : (mPw tbP j).1 + 1 ≤ (mPw tbP mi).1 ∧ mwd r + (mPl tbP j + 11) + (mPw tbP j).2 ≤ (mPw tbP mi).2 ∧ (margs as).length ≤ mPl tbP j)
    (hq : mq j 0 (ment (mPl tbP j) as) [] hp (fun r => r = (.inl v, hp'))) (kv : mq mi (pc + 3) ml (v.toList ++ r) hp' Q) : mq mi pc ml st hp Q :=
  x_callX hi e1 hc hr hq (fun v2 hp2 h => by cases h; exact kv) (fun x hp2 h => by cases h)
theorem x_if {cnd : ClassFile.Cond} {off : Int} {t : Nat} {x : Int32} {r : List Value} (hi : mPi tbP mi pc = some (.ifCond cnd off, 3)) (hst : st = .int x :: r) (ht : mtgt pc off = some t)
    (kt : mcnd cnd x 0 = true → mq mi t ml r hp Q) (kf : ¬ mcnd cnd x 0 = true → mq mi (pc + 3) ml r hp Q) : mq mi pc ml st hp Q := by
  subst hst
  by_cases hc : mcnd cnd x 0 = true
  · exact x_step (pc' := t) (ml' := ml) (st' := r) (hp' := hp) hi rfl rfl (by show mif cnd pc off ml _ hp = _; simp only [mif, ht, if_pos hc]) (kt hc)
  · exact x_step (pc' := pc + 3) (ml' := ml) (st' := r) (hp' := hp) hi rfl rfl (by show mif cnd pc off ml _ hp = _; simp only [mif, ht, if_neg hc]) (kf hc)
theorem x_cmp {cnd : ClassFile.Cond} {off : Int} {t : Nat} {x y : Int32} {r : List Value} (hi : mPi tbP mi pc = some (.if_icmp cnd off, 3)) (hst : st = .int y :: .int x :: r) (ht : mtgt pc off = some t)
    (kt : mcnd cnd x y = true → mq mi t ml r hp Q) (kf : ¬ mcnd cnd x y = true → mq mi (pc + 3) ml r hp Q) : mq mi pc ml st hp Q := by
  subst hst
  by_cases hc : mcnd cnd x y = true
  · exact x_step (pc' := t) (ml' := ml) (st' := r) (hp' := hp) hi rfl rfl (by show micmp cnd pc off ml _ hp = _; simp only [micmp, ht, if_pos hc]) (kt hc)
  · exact x_step (pc' := pc + 3) (ml' := ml) (st' := r) (hp' := hp) hi rfl rfl (by show micmp cnd pc off ml _ hp = _; simp only [micmp, ht, if_neg hc]) (kf hc)
theorem x_iald {a n : Nat} {f : Nat → Int32} {j : Int32} {r : List Value} (hi : mPi tbP mi pc = some (.iaload, 1)) (hst : st = .int j :: .ref a :: r) (ha : hp.2.2 a = .inl (.int, n, .inl f)) (hin : mIn j n = true)
    (k : mq mi (pc + 1) ml (.int (f j.toNatClampNeg) :: r) hp Q) : mq mi pc ml st hp Q := by
  subst hst
  exact x_step (pc' := pc + 1) (ml' := ml) (hp' := hp) hi rfl rfl (by simp [mstep, miald, ha, hin]) k
theorem x_iast {a n : Nat} {f : Nat → Int32} {j x : Int32} {r : List Value} (hi : mPi tbP mi pc = some (.iastore, 1)) (hst : st = .int x :: .int j :: .ref a :: r) (ha : hp.2.2 a = .inl (.int, n, .inl f)) (hin : mIn j n = true)
    (k : mq mi (pc + 1) ml r (hp.1, hp.2.1, va_up hp.2.2 a (.inl (.int, n, .inl (upd f j.toNatClampNeg x)))) Q) : mq mi pc ml st hp Q := by
  subst hst
  exact x_step (pc' := pc + 1) (ml' := ml) hi rfl rfl (by simp [mstep, miast, ha, hin]) k
/-- a boolean that is put into a field -/
theorem x_putz {i a ci k : Nat} {fs : List Value} {x : Int32} {r : List Value} (hi : mPi tbP mi pc = some (.putfield i, 3)) (hst : st = .int x :: .ref a :: r) (hf : mPf tbP (mPo tbP mi) i = some (ci, k)) (ha : hp.2.2 a = .inr (ci, fs)) (hk : k < fs.length) (hty : mPy tbP ci k = .boolean) (hx : x = 0 ∨ x = 1) (hq : mPq tbP ci k = false)
    (kk : mq mi (pc + 3) ml r (hp.1, hp.2.1, va_up hp.2.2 a (.inr (ci, fs.set k (.int x)))) Q) : mq mi pc ml st hp Q := by
  subst hst
  refine x_step (pc' := pc + 3) (ml' := ml) hi rfl rfl ?_ kk
  show mputf tbP (mPz tbP mi) (mPo tbP mi) i (pc + 3) ml _ hp = _
  simp only [mputf, hf, ha]
  rw [if_pos ⟨trivial, hk, by rw [hty]; simp [mfit, hx], Or.inl hq⟩]
/-- an exception is thrown -/
theorem x_throw {i ci k : Nat} (hi : mPi tbP mi pc = some (.new i, 3)) (ht : mthr tbP mi (.new i) pc = some (ci, k)) (hr : mroom tbCM tbSM k hp = true) (hh : mPh tbP mi = []) (hw : 6 ≤ (mPw tbP mi).1 ∧ mwd st + 82 ≤ (mPw tbP mi).2)
    (kk : Q (.inr hp.1, hp.1 + 1, hp.2.1 + k, va_up hp.2.2 hp.1 (.inr (ci, [])))) : mq mi pc ml st hp Q := by
  have e1 : mretv tbP mi (.new i) st = none := rfl
  have e2 : mcall tbP (mPo tbP mi) (.new i) st hp = none := rfl
  have e3 : mobj tbP (mPo tbP mi) (.new i) st = none := rfl
  refine ⟨1, _, ?_, kk⟩
  rw [mrun]
  simp only [hi, e1, e2, e3, ht]
  rw [if_pos ⟨hr, hh, trivial, hw⟩]
end MX
