/-! The picture of the heap: I the whole numbers of the objects' fields, A the contents of the arrays of ints, J the sieve's limit, B the law's array, mk and sn the batches that are being made and that was sent; X what lies behind (exceptions). -/
def HPl (I : Nat → Int32) (A : Nat → Nat → Int32) (J : Int64) (B : Nat → Int64) (mk sn L : Nat) (xs : Nat → Int32) : List mC := [
  .inl (.boolean, L, .inl xs),
  .inr (0, [.ref 2, .ref 4, .ref 12, .ref 33, .ref 34, .ref 40, .ref 42, .ref 49, .ref 51, .ref mk, .ref sn, .int (I 11)]),
  .inr (1, [.ref 3, .int (I 0), .int (I 1), .int (I 2), .int (I 3)]),
  .inl (.int, 2048, .inl (A 0)),
  .inr (5, [.ref 2, .ref 5, .int (I 4), .int (I 5), .int (I 6), .int (I 7), .int (I 8), .int (I 9), .int (I 10)]),
  .inr (4, [.ref 6, .int (I 20), .int (I 21)]),
  .inr (3, [.ref 7, .ref 8, .ref 9, .ref 10, .ref 11, .int (I 22)]),
  .inl (.int, 4, .inl (A 10)),
  .inl (.int, 4, .inl (A 11)),
  .inl (.int, 4, .inl (A 12)),
  .inl (.int, 4, .inl (A 13)),
  .inl (.int, 4, .inl (A 14)),
  .inl (.object "LogBroker$Log", 4, .inr (.inr (.inr (.inr fun k => [some 13, some 18, some 23, some 28].getD k none)))),
  .inr (6, [.int 0, .ref 14, .ref 15, .ref 16, .ref 17, .int (I 40), .int (I 41), .int (I 42)]),
  .inl (.int, 16, .inl (A 30)),
  .inl (.int, 8, .inl (A 31)),
  .inl (.int, 8, .inl (A 32)),
  .inl (.int, 8, .inl (A 33)),
  .inr (6, [.int 1, .ref 19, .ref 20, .ref 21, .ref 22, .int (I 43), .int (I 44), .int (I 45)]),
  .inl (.int, 16, .inl (A 34)),
  .inl (.int, 8, .inl (A 35)),
  .inl (.int, 8, .inl (A 36)),
  .inl (.int, 8, .inl (A 37)),
  .inr (6, [.int 2, .ref 24, .ref 25, .ref 26, .ref 27, .int (I 46), .int (I 47), .int (I 48)]),
  .inl (.int, 16, .inl (A 38)),
  .inl (.int, 8, .inl (A 39)),
  .inl (.int, 8, .inl (A 40)),
  .inl (.int, 8, .inl (A 41)),
  .inr (6, [.int 3, .ref 29, .ref 30, .ref 31, .ref 32, .int (I 49), .int (I 50), .int (I 51)]),
  .inl (.int, 16, .inl (A 42)),
  .inl (.int, 8, .inl (A 43)),
  .inl (.int, 8, .inl (A 44)),
  .inl (.int, 8, .inl (A 45)),
  .inl (.int, 32, .inl (A 1)),
  .inr (3, [.ref 35, .ref 36, .ref 37, .ref 38, .ref 39, .int (I 16)]),
  .inl (.int, 8, .inl (A 5)),
  .inl (.int, 8, .inl (A 6)),
  .inl (.int, 8, .inl (A 7)),
  .inl (.int, 8, .inl (A 8)),
  .inl (.int, 8, .inl (A 9)),
  .inr (7, [.ref 41, .int (I 12), .int (I 13), .long J]),
  .inl (.int, 512, .inl (A 2)),
  .inr (4, [.ref 43, .int (I 23), .int (I 24)]),
  .inr (3, [.ref 44, .ref 45, .ref 46, .ref 47, .ref 48, .int (I 25)]),
  .inl (.int, 4, .inl (A 15)),
  .inl (.int, 4, .inl (A 16)),
  .inl (.int, 4, .inl (A 17)),
  .inl (.int, 4, .inl (A 18)),
  .inl (.int, 4, .inl (A 19)),
  .inr (2, [.ref 50, .int (I 14)]),
  .inl (.int, 128, .inl (A 3)),
  .inr (2, [.ref 52, .int (I 15)]),
  .inl (.int, 32, .inl (A 4)),
  .inr (4, [.ref 54, .int (I 26), .int (I 27)]),
  .inr (3, [.ref 55, .ref 56, .ref 57, .ref 58, .ref 59, .int (I 28)]),
  .inl (.int, 4, .inl (A 20)),
  .inl (.int, 4, .inl (A 21)),
  .inl (.int, 4, .inl (A 22)),
  .inl (.int, 4, .inl (A 23)),
  .inl (.int, 4, .inl (A 24)),
  .inr (4, [.ref 61, .int (I 29), .int (I 30)]),
  .inr (3, [.ref 62, .ref 63, .ref 64, .ref 65, .ref 66, .int (I 31)]),
  .inl (.int, 4, .inl (A 25)),
  .inl (.int, 4, .inl (A 26)),
  .inl (.int, 4, .inl (A 27)),
  .inl (.int, 4, .inl (A 28)),
  .inl (.int, 4, .inl (A 29)),
  .inr (8, [.int (I 60), .ref 68, .int (I 61), .int (I 62), .int (I 63), .ref 69, .int (I 64), .ref 70, .ref 71, .int (I 65), .int (I 66), .int (I 67), .ref 72, .int (I 68), .ref 73, .ref 74, .ref 75, .int (I 69), .int (I 70), .int (I 71)]),
  .inl (.int, 2048, .inl (A 50)),
  .inl (.int, 20, .inl (A 51)),
  .inl (.int, 20, .inl (A 52)),
  .inl (.int, 20, .inl (A 53)),
  .inl (.int, 600, .inl (A 54)),
  .inl (.int, 96, .inl (A 55)),
  .inl (.int, 32, .inl (A 56)),
  .inl (.int, 40, .inl (A 57)),
  .inl (.long, 1, .inr (.inl B))]
def HPf (l : List mC) (X : Nat → mC) : Nat → mC := fun a => l.getD a (X a)
theorem HPf_set (l : List mC) (X : Nat → mC) (a : Nat) (c : mC) (h : a < l.length) : va_up (HPf l X) a c = HPf (l.set a c) X := by
  funext b
  unfold va_up HPf
  by_cases hb : b = a
  · subst hb
    simp [h]
  · have hb' : ¬ a = b := fun q => hb q.symm
    simp [hb, hb', List.getElem?_set]
section MY
variable {mi pc n u : Nat} {ml : mLs} {st : List Value} {l : List mC} {X : Nat → mC} {Q : mO × mHp → Prop}
theorem x_put {i a ci k : Nat} {fs : List Value} {v : Value} {r : List Value} (hi : mPi tbP mi pc = some (.putfield i, 3)) (hst : st = v :: .ref a :: r) (hf : mPf tbP (mPo tbP mi) i = some (ci, k)) (ha : l[a]? = some (.inr (ci, fs))) (hok : k < fs.length ∧ mfit v (mPy tbP ci k) = true ∧ (mPq tbP ci k = false ∨ (mPz tbP mi = true ∧ mPo tbP mi = ci)))
    (kk : mq mi (pc + 3) ml r (n, u, HPf (l.set a (.inr (ci, fs.set k v))) X) Q) : mq mi pc ml st (n, u, HPf l X) Q := by
  subst hst
  have hlt : a < l.length := (List.getElem?_eq_some_iff.mp ha).1
  have h1 : HPf l X a = .inr (ci, fs) := by simp [HPf, ha]
  rw [← HPf_set l X a _ hlt] at kk
  refine x_step (pc' := pc + 3) (ml' := ml) hi rfl rfl ?_ kk
  show mputf tbP (mPz tbP mi) (mPo tbP mi) i (pc + 3) ml _ _ = _
  simp only [mputf, hf, h1]
  rw [if_pos ⟨trivial, hok.1, hok.2.1, hok.2.2⟩]
theorem x_ast {a m : Nat} {f : Nat → Int32} {j x : Int32} {r : List Value} (hi : mPi tbP mi pc = some (.iastore, 1)) (hst : st = .int x :: .int j :: .ref a :: r) (ha : l[a]? = some (.inl (.int, m, .inl f))) (hin : mIn j m = true)
    (kk : mq mi (pc + 1) ml r (n, u, HPf (l.set a (.inl (.int, m, .inl (upd f j.toNatClampNeg x)))) X) Q) : mq mi pc ml st (n, u, HPf l X) Q := by
  have hlt : a < l.length := (List.getElem?_eq_some_iff.mp ha).1
  have h1 : HPf l X a = .inl (.int, m, .inl f) := by simp [HPf, ha]
  rw [← HPf_set l X a _ hlt] at kk
  exact x_iast (hp := (n, u, HPf l X)) hi hst h1 hin kk
theorem x_ald {a m : Nat} {f : Nat → Int32} {j : Int32} {r : List Value} (hi : mPi tbP mi pc = some (.iaload, 1)) (hst : st = .int j :: .ref a :: r) (ha : l[a]? = some (.inl (.int, m, .inl f))) (hin : mIn j m = true)
    (kk : mq mi (pc + 1) ml (.int (f j.toNatClampNeg) :: r) (n, u, HPf l X) Q) : mq mi pc ml st (n, u, HPf l X) Q := by
  have h1 : HPf l X a = .inl (.int, m, .inl f) := by simp [HPf, ha]
  exact x_iald (hp := (n, u, HPf l X)) hi hst h1 hin kk
end MY
