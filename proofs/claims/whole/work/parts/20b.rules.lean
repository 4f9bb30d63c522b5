/-! Rules, one an instruction, in clean form. -/
section MZ
variable {mi pc : Nat} {ml : mLs} {st : List Value} {hp : mHp} {Q : mO × mHp → Prop}
theorem x_iadd {x y : Int32} {r : List Value} (hi : mPi tbP mi pc = some (.iadd, 1)) (hst : st = .int y :: .int x :: r) (k : mq mi (pc + 1) ml (.int (x + y) :: r) hp Q) : mq mi pc ml st hp Q := by
  subst hst
  exact x_step hi rfl rfl rfl k
theorem x_isub {x y : Int32} {r : List Value} (hi : mPi tbP mi pc = some (.isub, 1)) (hst : st = .int y :: .int x :: r) (k : mq mi (pc + 1) ml (.int (x - y) :: r) hp Q) : mq mi pc ml st hp Q := by
  subst hst
  exact x_step hi rfl rfl rfl k
theorem x_imul {x y : Int32} {r : List Value} (hi : mPi tbP mi pc = some (.imul, 1)) (hst : st = .int y :: .int x :: r) (k : mq mi (pc + 1) ml (.int (x * y) :: r) hp Q) : mq mi pc ml st hp Q := by
  subst hst
  exact x_step hi rfl rfl rfl k
theorem x_iand {x y : Int32} {r : List Value} (hi : mPi tbP mi pc = some (.iand, 1)) (hst : st = .int y :: .int x :: r) (k : mq mi (pc + 1) ml (.int (x &&& y) :: r) hp Q) : mq mi pc ml st hp Q := by
  subst hst
  exact x_step hi rfl rfl rfl k
theorem x_ior {x y : Int32} {r : List Value} (hi : mPi tbP mi pc = some (.ior, 1)) (hst : st = .int y :: .int x :: r) (k : mq mi (pc + 1) ml (.int (x ||| y) :: r) hp Q) : mq mi pc ml st hp Q := by
  subst hst
  exact x_step hi rfl rfl rfl k
theorem x_ixor {x y : Int32} {r : List Value} (hi : mPi tbP mi pc = some (.ixor, 1)) (hst : st = .int y :: .int x :: r) (k : mq mi (pc + 1) ml (.int (x ^^^ y) :: r) hp Q) : mq mi pc ml st hp Q := by
  subst hst
  exact x_step hi rfl rfl rfl k
theorem x_ishl {x y : Int32} {r : List Value} (hi : mPi tbP mi pc = some (.ishl, 1)) (hst : st = .int y :: .int x :: r) (k : mq mi (pc + 1) ml (.int (x <<< (y &&& 31)) :: r) hp Q) : mq mi pc ml st hp Q := by
  subst hst
  exact x_step hi rfl rfl rfl k
theorem x_ishr {x y : Int32} {r : List Value} (hi : mPi tbP mi pc = some (.ishr, 1)) (hst : st = .int y :: .int x :: r) (k : mq mi (pc + 1) ml (.int (x >>> (y &&& 31)) :: r) hp Q) : mq mi pc ml st hp Q := by
  subst hst
  exact x_step hi rfl rfl rfl k
theorem x_iushr {x y : Int32} {r : List Value} (hi : mPi tbP mi pc = some (.iushr, 1)) (hst : st = .int y :: .int x :: r) (k : mq mi (pc + 1) ml (.int ((x.toUInt32 >>> (y.toUInt32 &&& Int32.toUInt32 31)).toInt32) :: r) hp Q) : mq mi pc ml st hp Q := by
  subst hst
  exact x_step hi rfl rfl rfl k
theorem x_idiv {x y : Int32} {r : List Value} (hi : mPi tbP mi pc = some (.idiv, 1)) (hst : st = .int y :: .int x :: r) (hy : ¬ y = 0) (k : mq mi (pc + 1) ml (.int (x / y) :: r) hp Q) : mq mi pc ml st hp Q := by
  subst hst
  exact x_step (pc' := pc + 1) (ml' := ml) (hp' := hp) hi rfl rfl (by simp [mstep, mdiv, hy]) k
theorem x_ineg {x : Int32} {r : List Value} (hi : mPi tbP mi pc = some (.ineg, 1)) (hst : st = .int x :: r) (k : mq mi (pc + 1) ml (.int (-x) :: r) hp Q) : mq mi pc ml st hp Q := by
  subst hst
  exact x_step hi rfl rfl rfl k
theorem x_i2l {x : Int32} {r : List Value} (hi : mPi tbP mi pc = some (.i2l, 1)) (hst : st = .int x :: r) (k : mq mi (pc + 1) ml (.long x.toInt64 :: r) hp Q) : mq mi pc ml st hp Q := by
  subst hst
  exact x_step hi rfl rfl rfl k
theorem x_lsub {x y : Int64} {r : List Value} (hi : mPi tbP mi pc = some (.lsub, 1)) (hst : st = .long y :: .long x :: r) (k : mq mi (pc + 1) ml (.long (x - y) :: r) hp Q) : mq mi pc ml st hp Q := by
  subst hst
  exact x_step hi rfl rfl rfl k
theorem x_const {ins : Instr} {len pc' : Nat} (v : Value) (hi : mPi tbP mi pc = some (ins, len)) (hn : mnoc ins = true) (hl : mlok ins len = true) (hs : mstep tbP tbCM tbSM (mPz tbP mi) (mPo tbP mi) ins pc ml st hp = some (pc', ml, v :: st, hp)) (k : mq mi pc' ml (v :: st) hp Q) : mq mi pc ml st hp Q := x_step hi hn hl hs k
theorem x_iinc {i : Nat} {n : Int} {x : Int32} (c : Int32) {ml' : mLs} (hi : mPi tbP mi pc = some (.iinc i n, 3)) (hc : Int32.ofInt n = c) (hg : mget ml i = some (.int x)) (hm : mset1 ml i (.int (x + c)) = some ml') (k : mq mi (pc + 3) ml' st hp Q) : mq mi pc ml st hp Q := by
  subst hc
  exact x_step (pc' := pc + 3) (st' := st) (hp' := hp) hi rfl rfl (by show minc (pc + 3) i n ml st hp = _; simp only [minc, hg, hm]) k
theorem x_if_eq {off : Int} {t : Nat} {x : Int32} {r : List Value} (hi : mPi tbP mi pc = some (.ifCond .eq off, 3)) (hst : st = .int x :: r) (ht : mtgt pc off = some t) (kt : x = 0 → mq mi t ml r hp Q) (kf : ¬ x = 0 → mq mi (pc + 3) ml r hp Q) : mq mi pc ml st hp Q :=
  x_if hi hst ht (fun hc => kt (of_decide_eq_true hc)) (fun hc => kf (fun q => hc (decide_eq_true q)))
theorem x_cmp_eq {off : Int} {t : Nat} {x y : Int32} {r : List Value} (hi : mPi tbP mi pc = some (.if_icmp .eq off, 3)) (hst : st = .int y :: .int x :: r) (ht : mtgt pc off = some t) (kt : x = y → mq mi t ml r hp Q) (kf : ¬ x = y → mq mi (pc + 3) ml r hp Q) : mq mi pc ml st hp Q :=
  x_cmp hi hst ht (fun hc => kt (of_decide_eq_true hc)) (fun hc => kf (fun q => hc (decide_eq_true q)))
theorem x_if_ne {off : Int} {t : Nat} {x : Int32} {r : List Value} (hi : mPi tbP mi pc = some (.ifCond .ne off, 3)) (hst : st = .int x :: r) (ht : mtgt pc off = some t) (kt : ¬ x = 0 → mq mi t ml r hp Q) (kf : x = 0 → mq mi (pc + 3) ml r hp Q) : mq mi pc ml st hp Q :=
  x_if hi hst ht (fun hc => kt (of_decide_eq_true hc)) (fun hc => kf (Classical.byContradiction fun q => hc (decide_eq_true q)))
theorem x_cmp_ne {off : Int} {t : Nat} {x y : Int32} {r : List Value} (hi : mPi tbP mi pc = some (.if_icmp .ne off, 3)) (hst : st = .int y :: .int x :: r) (ht : mtgt pc off = some t) (kt : ¬ x = y → mq mi t ml r hp Q) (kf : x = y → mq mi (pc + 3) ml r hp Q) : mq mi pc ml st hp Q :=
  x_cmp hi hst ht (fun hc => kt (of_decide_eq_true hc)) (fun hc => kf (Classical.byContradiction fun q => hc (decide_eq_true q)))
theorem x_if_lt {off : Int} {t : Nat} {x : Int32} {r : List Value} (hi : mPi tbP mi pc = some (.ifCond .lt off, 3)) (hst : st = .int x :: r) (ht : mtgt pc off = some t) (kt : x < 0 → mq mi t ml r hp Q) (kf : ¬ x < 0 → mq mi (pc + 3) ml r hp Q) : mq mi pc ml st hp Q :=
  x_if hi hst ht (fun hc => kt (of_decide_eq_true hc)) (fun hc => kf (fun q => hc (decide_eq_true q)))
theorem x_cmp_lt {off : Int} {t : Nat} {x y : Int32} {r : List Value} (hi : mPi tbP mi pc = some (.if_icmp .lt off, 3)) (hst : st = .int y :: .int x :: r) (ht : mtgt pc off = some t) (kt : x < y → mq mi t ml r hp Q) (kf : ¬ x < y → mq mi (pc + 3) ml r hp Q) : mq mi pc ml st hp Q :=
  x_cmp hi hst ht (fun hc => kt (of_decide_eq_true hc)) (fun hc => kf (fun q => hc (decide_eq_true q)))
theorem x_if_ge {off : Int} {t : Nat} {x : Int32} {r : List Value} (hi : mPi tbP mi pc = some (.ifCond .ge off, 3)) (hst : st = .int x :: r) (ht : mtgt pc off = some t) (kt : 0 ≤ x → mq mi t ml r hp Q) (kf : ¬ 0 ≤ x → mq mi (pc + 3) ml r hp Q) : mq mi pc ml st hp Q :=
  x_if hi hst ht (fun hc => kt (of_decide_eq_true hc)) (fun hc => kf (fun q => hc (decide_eq_true q)))
theorem x_cmp_ge {off : Int} {t : Nat} {x y : Int32} {r : List Value} (hi : mPi tbP mi pc = some (.if_icmp .ge off, 3)) (hst : st = .int y :: .int x :: r) (ht : mtgt pc off = some t) (kt : y ≤ x → mq mi t ml r hp Q) (kf : ¬ y ≤ x → mq mi (pc + 3) ml r hp Q) : mq mi pc ml st hp Q :=
  x_cmp hi hst ht (fun hc => kt (of_decide_eq_true hc)) (fun hc => kf (fun q => hc (decide_eq_true q)))
theorem x_if_gt {off : Int} {t : Nat} {x : Int32} {r : List Value} (hi : mPi tbP mi pc = some (.ifCond .gt off, 3)) (hst : st = .int x :: r) (ht : mtgt pc off = some t) (kt : 0 < x → mq mi t ml r hp Q) (kf : ¬ 0 < x → mq mi (pc + 3) ml r hp Q) : mq mi pc ml st hp Q :=
  x_if hi hst ht (fun hc => kt (of_decide_eq_true hc)) (fun hc => kf (fun q => hc (decide_eq_true q)))
theorem x_cmp_gt {off : Int} {t : Nat} {x y : Int32} {r : List Value} (hi : mPi tbP mi pc = some (.if_icmp .gt off, 3)) (hst : st = .int y :: .int x :: r) (ht : mtgt pc off = some t) (kt : y < x → mq mi t ml r hp Q) (kf : ¬ y < x → mq mi (pc + 3) ml r hp Q) : mq mi pc ml st hp Q :=
  x_cmp hi hst ht (fun hc => kt (of_decide_eq_true hc)) (fun hc => kf (fun q => hc (decide_eq_true q)))
theorem x_if_le {off : Int} {t : Nat} {x : Int32} {r : List Value} (hi : mPi tbP mi pc = some (.ifCond .le off, 3)) (hst : st = .int x :: r) (ht : mtgt pc off = some t) (kt : x ≤ 0 → mq mi t ml r hp Q) (kf : ¬ x ≤ 0 → mq mi (pc + 3) ml r hp Q) : mq mi pc ml st hp Q :=
  x_if hi hst ht (fun hc => kt (of_decide_eq_true hc)) (fun hc => kf (fun q => hc (decide_eq_true q)))
theorem x_cmp_le {off : Int} {t : Nat} {x y : Int32} {r : List Value} (hi : mPi tbP mi pc = some (.if_icmp .le off, 3)) (hst : st = .int y :: .int x :: r) (ht : mtgt pc off = some t) (kt : x ≤ y → mq mi t ml r hp Q) (kf : ¬ x ≤ y → mq mi (pc + 3) ml r hp Q) : mq mi pc ml st hp Q :=
  x_cmp hi hst ht (fun hc => kt (of_decide_eq_true hc)) (fun hc => kf (fun q => hc (decide_eq_true q)))
end MZ
