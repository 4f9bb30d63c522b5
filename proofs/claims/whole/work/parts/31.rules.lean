/-! Exceptions, switches; the batch that is being made. -/
section S31a
variable {mi pc : Nat} {ml : mLs} {r : List Value} {hp : mHp} {Q : mO × mHp → Prop}
theorem tab_lt {x : Int32} (h : x < 0) : x.toInt < (0 : Int) := by
  have := Int32.lt_iff_toInt_lt.mp h
  simpa using this
theorem tab_ge {x : Int32} {n : Nat} (hn : n + 1 < 2 ^ 31) (h : nI (n + 1) ≤ x) : (n : Int) < x.toInt := by
  have := Int32.le_iff_toInt_le.mp h
  rw [nI_toInt hn] at this
  omega
theorem x_tabd {d lo hh : Int} {offs : Array Int} {len t : Nat} {x : Int32} (hi : mPi tbP mi pc = some (.tableswitch d lo hh offs, len)) (ht : mtgt pc d = some t) (hx : x.toInt < lo ∨ hh < x.toInt) (k : mq mi t ml r hp Q) : mq mi pc ml (.int x :: r) hp Q :=
  x_step (pc' := t) (ml' := ml) (st' := r) (hp' := hp) hi rfl rfl (by simp only [mstep, mtab]; rw [if_pos hx]; simp only [mjmp, ht]) k
theorem x_tabi {d lo hh : Int} {offs : Array Int} {len t i : Nat} {x : Int32} (hi : mPi tbP mi pc = some (.tableswitch d lo hh offs, len)) (ht : mtab d lo hh offs pc ml (.int (nI i) :: r) hp = some (t, ml, r, hp)) (hx : x = nI i) (k : mq mi t ml r hp Q) : mq mi pc ml (.int x :: r) hp Q := by
  subst hx
  exact x_step (pc' := t) (ml' := ml) (st' := r) (hp' := hp) hi rfl rfl ht k
/-- an exception lies behind the picture -/
theorem HPf_x {l : List mC} {X : Nat → mC} {n : Nat} {c : mC} (h : l.length ≤ n) : va_up (HPf l X) n c = HPf l (va_up X n c) := by
  funext b
  unfold va_up HPf
  by_cases hb : b = n
  · subst hb
    simp [h]
  · simp [hb]
theorem mcls_x {l : List mC} {X : Nat → mC} {n ci : Nat} {a b : Nat} (h : l.length ≤ n) : mcls (a, b, HPf l (va_up X n (.inr (ci, [])))) n = ci := by
  simp [mcls, HPf, h, va_up]
end S31a
def cb (mk : Nat) : Nat := if mk = 53 then 28 else 31
def ab (mk : Nat) : Nat := if mk = 53 then 20 else 25
def mks (mk sn : Nat) : Prop := (mk = 53 ∧ sn = 60) ∨ (mk = 60 ∧ sn = 53)
section S31
variable {n u : Nat} {I : Nat → Int32} {A : Nat → Nat → Int32} {J : Int64} {B : Nat → Int64} {mk sn L : Nat} {xs : Nat → Int32} {X : Nat → mC} {D : Nat → Nat} {mi pc : Nat} {ml : mLs} {r : List Value} {Q : mO × mHp → Prop}
theorem x_thr {i ci k : Nat} {st : List Value} (hi : mPi tbP mi pc = some (.new i, 3)) (ht : mthr tbP mi (.new i) pc = some (ci, k)) (hn : 77 ≤ n ∧ n < 10000) (hu : u + k < 1000000) (hh : mPh tbP mi = []) (hw : 6 ≤ (mPw tbP mi).1 ∧ mwd st + 82 ≤ (mPw tbP mi).2)
    (kk : Q (.inr n, hS (n + 1) (u + k) I A J B mk sn L xs (va_up X n (.inr (ci, []))))) : mq mi pc ml st (hS n u I A J B mk sn L xs X) Q := by
  refine x_throw hi ht ?_ hh hw ?_
  · simp only [mroom, tbCM, tbSM, Bool.and_eq_true, decide_eq_true_eq]
    exact ⟨decide_eq_true (by omega), decide_eq_true (by omega)⟩
  · show Q (.inr n, n + 1, u + k, va_up (HPf (HPl I A J B mk sn L xs) X) n (.inr (ci, [])))
    rw [HPf_x (show (HPl I A J B mk sn L xs).length ≤ n from hn.1)]
    exact kk
theorem mcls_hS {ci n' u' : Nat} (hn : 77 ≤ n) : mcls (hS n' u' I A J B mk sn L xs (va_up X n (.inr (ci, [])))) n = ci := mcls_x (show (HPl I A J B mk sn L xs).length ≤ n from hn)
end S31
