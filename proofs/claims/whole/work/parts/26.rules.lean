/-! Rules with whole numbers. -/
section S26
variable {mi pc : Nat} {ml : mLs} {r : List Value} {hp : mHp} {Q : mO × mHp → Prop}
theorem x_top {x y : Int32} (h : x = y) (k : mq mi pc ml (.int y :: r) hp Q) : mq mi pc ml (.int x :: r) hp Q := by
  subst h
  exact k
theorem x_iaddN {a b c : Nat} (hi : mPi tbP mi pc = some (.iadd, 1)) (hc : a + b = c) (k : mq mi (pc + 1) ml (.int (nI c) :: r) hp Q) : mq mi pc ml (.int (nI b) :: .int (nI a) :: r) hp Q := by
  subst hc
  refine x_iadd hi rfl ?_
  rw [nI_add]
  exact k
theorem x_imulN {a b c : Nat} (hi : mPi tbP mi pc = some (.imul, 1)) (hc : a * b = c) (k : mq mi (pc + 1) ml (.int (nI c) :: r) hp Q) : mq mi pc ml (.int (nI b) :: .int (nI a) :: r) hp Q := by
  subst hc
  refine x_imul hi rfl ?_
  rw [pk_mul]
  exact k
theorem x_isubN {a b : Nat} (hi : mPi tbP mi pc = some (.isub, 1)) (h : b ≤ a) (k : mq mi (pc + 1) ml (.int (nI (a - b)) :: r) hp Q) : mq mi pc ml (.int (nI b) :: .int (nI a) :: r) hp Q := by
  refine x_isub hi rfl ?_
  rw [pk_sub h]
  exact k
theorem x_iincN {i a c : Nat} {n : Int} {ml' : mLs} {st : List Value} (hi : mPi tbP mi pc = some (.iinc i n, 3)) (hc : Int32.ofInt n = nI c) (hg : mget ml i = some (.int (nI a))) (hm : mset1 ml i (.int (nI (a + c))) = some ml') (k : mq mi (pc + 3) ml' st hp Q) : mq mi pc ml st hp Q :=
  x_iinc (nI c) hi hc hg (by rw [nI_add]; exact hm) k
theorem x_iincV {i : Nat} {n : Int} {x v : Int32} {ml' : mLs} {st : List Value} (hi : mPi tbP mi pc = some (.iinc i n, 3)) (hg : mget ml i = some (.int x)) (hv : x + Int32.ofInt n = v) (hm : mset1 ml i (.int v) = some ml') (k : mq mi (pc + 3) ml' st hp Q) : mq mi pc ml st hp Q :=
  x_iinc _ hi rfl hg (by rw [hv]; exact hm) k
theorem x_idivV {x y v : Int32} (hi : mPi tbP mi pc = some (.idiv, 1)) (hy : ¬ y = 0) (hv : x / y = v) (k : mq mi (pc + 1) ml (.int v :: r) hp Q) : mq mi pc ml (.int y :: .int x :: r) hp Q := by
  subst hv
  exact x_idiv hi rfl hy k
theorem x_iaddV {x y v : Int32} (hi : mPi tbP mi pc = some (.iadd, 1)) (hv : x + y = v) (k : mq mi (pc + 1) ml (.int v :: r) hp Q) : mq mi pc ml (.int y :: .int x :: r) hp Q := by
  subst hv
  exact x_iadd hi rfl k
theorem x_isubV {x y v : Int32} (hi : mPi tbP mi pc = some (.isub, 1)) (hv : x - y = v) (k : mq mi (pc + 1) ml (.int v :: r) hp Q) : mq mi pc ml (.int y :: .int x :: r) hp Q := by
  subst hv
  exact x_isub hi rfl k
theorem x_imulV {x y v : Int32} (hi : mPi tbP mi pc = some (.imul, 1)) (hv : x * y = v) (k : mq mi (pc + 1) ml (.int v :: r) hp Q) : mq mi pc ml (.int y :: .int x :: r) hp Q := by
  subst hv
  exact x_imul hi rfl k
theorem x_iandV {x y v : Int32} (hi : mPi tbP mi pc = some (.iand, 1)) (hv : x &&& y = v) (k : mq mi (pc + 1) ml (.int v :: r) hp Q) : mq mi pc ml (.int y :: .int x :: r) hp Q := by
  subst hv
  exact x_iand hi rfl k
theorem x_iorV {x y v : Int32} (hi : mPi tbP mi pc = some (.ior, 1)) (hv : x ||| y = v) (k : mq mi (pc + 1) ml (.int v :: r) hp Q) : mq mi pc ml (.int y :: .int x :: r) hp Q := by
  subst hv
  exact x_ior hi rfl k
theorem x_ixorV {x y v : Int32} (hi : mPi tbP mi pc = some (.ixor, 1)) (hv : x ^^^ y = v) (k : mq mi (pc + 1) ml (.int v :: r) hp Q) : mq mi pc ml (.int y :: .int x :: r) hp Q := by
  subst hv
  exact x_ixor hi rfl k
theorem x_ishlV {x y v : Int32} (hi : mPi tbP mi pc = some (.ishl, 1)) (hv : x <<< (y &&& 31) = v) (k : mq mi (pc + 1) ml (.int v :: r) hp Q) : mq mi pc ml (.int y :: .int x :: r) hp Q := by
  subst hv
  exact x_ishl hi rfl k
theorem x_ishrV {x y v : Int32} (hi : mPi tbP mi pc = some (.ishr, 1)) (hv : x >>> (y &&& 31) = v) (k : mq mi (pc + 1) ml (.int v :: r) hp Q) : mq mi pc ml (.int y :: .int x :: r) hp Q := by
  subst hv
  exact x_ishr hi rfl k
theorem x_iushrV {x y v : Int32} (hi : mPi tbP mi pc = some (.iushr, 1)) (hv : (x.toUInt32 >>> (y.toUInt32 &&& Int32.toUInt32 31)).toInt32 = v) (k : mq mi (pc + 1) ml (.int v :: r) hp Q) : mq mi pc ml (.int y :: .int x :: r) hp Q := by
  subst hv
  exact x_iushr hi rfl k
theorem x_cmpN_eq {off : Int} {t a b : Nat} (hi : mPi tbP mi pc = some (.if_icmp .eq off, 3)) (ht : mtgt pc off = some t) (ha : a < 2 ^ 31) (hb : b < 2 ^ 31) (kt : a = b → mq mi t ml r hp Q) (kf : ¬ a = b → mq mi (pc + 3) ml r hp Q) : mq mi pc ml (.int (nI b) :: .int (nI a) :: r) hp Q :=
  x_cmp_eq hi rfl ht (fun h => kt ((nI_eq ha hb).mp h)) (fun h => kf (fun q => h ((nI_eq ha hb).mpr q)))
theorem x_cmpN_ne {off : Int} {t a b : Nat} (hi : mPi tbP mi pc = some (.if_icmp .ne off, 3)) (ht : mtgt pc off = some t) (ha : a < 2 ^ 31) (hb : b < 2 ^ 31) (kt : ¬ a = b → mq mi t ml r hp Q) (kf : a = b → mq mi (pc + 3) ml r hp Q) : mq mi pc ml (.int (nI b) :: .int (nI a) :: r) hp Q :=
  x_cmp_ne hi rfl ht (fun h => kt ((not_congr (nI_eq ha hb)).mp h)) (fun h => kf ((nI_eq ha hb).mp h))
theorem x_cmpN_lt {off : Int} {t a b : Nat} (hi : mPi tbP mi pc = some (.if_icmp .lt off, 3)) (ht : mtgt pc off = some t) (ha : a < 2 ^ 31) (hb : b < 2 ^ 31) (kt : a < b → mq mi t ml r hp Q) (kf : ¬ a < b → mq mi (pc + 3) ml r hp Q) : mq mi pc ml (.int (nI b) :: .int (nI a) :: r) hp Q :=
  x_cmp_lt hi rfl ht (fun h => kt ((nI_ltI ha hb).mp h)) (fun h => kf (fun q => h ((nI_ltI ha hb).mpr q)))
theorem x_cmpN_ge {off : Int} {t a b : Nat} (hi : mPi tbP mi pc = some (.if_icmp .ge off, 3)) (ht : mtgt pc off = some t) (ha : a < 2 ^ 31) (hb : b < 2 ^ 31) (kt : b ≤ a → mq mi t ml r hp Q) (kf : ¬ b ≤ a → mq mi (pc + 3) ml r hp Q) : mq mi pc ml (.int (nI b) :: .int (nI a) :: r) hp Q :=
  x_cmp_ge hi rfl ht (fun h => kt ((nI_leI hb ha).mp h)) (fun h => kf (fun q => h ((nI_leI hb ha).mpr q)))
theorem x_cmpN_gt {off : Int} {t a b : Nat} (hi : mPi tbP mi pc = some (.if_icmp .gt off, 3)) (ht : mtgt pc off = some t) (ha : a < 2 ^ 31) (hb : b < 2 ^ 31) (kt : b < a → mq mi t ml r hp Q) (kf : ¬ b < a → mq mi (pc + 3) ml r hp Q) : mq mi pc ml (.int (nI b) :: .int (nI a) :: r) hp Q :=
  x_cmp_gt hi rfl ht (fun h => kt ((nI_ltI hb ha).mp h)) (fun h => kf (fun q => h ((nI_ltI hb ha).mpr q)))
theorem x_cmpN_le {off : Int} {t a b : Nat} (hi : mPi tbP mi pc = some (.if_icmp .le off, 3)) (ht : mtgt pc off = some t) (ha : a < 2 ^ 31) (hb : b < 2 ^ 31) (kt : a ≤ b → mq mi t ml r hp Q) (kf : ¬ a ≤ b → mq mi (pc + 3) ml r hp Q) : mq mi pc ml (.int (nI b) :: .int (nI a) :: r) hp Q :=
  x_cmp_le hi rfl ht (fun h => kt ((nI_leI ha hb).mp h)) (fun h => kf (fun q => h ((nI_leI ha hb).mpr q)))
theorem x_ifN_eq {off : Int} {t a : Nat} (hi : mPi tbP mi pc = some (.ifCond .eq off, 3)) (ht : mtgt pc off = some t) (ha : a < 2 ^ 31) (kt : a = 0 → mq mi t ml r hp Q) (kf : ¬ a = 0 → mq mi (pc + 3) ml r hp Q) : mq mi pc ml (.int (nI a) :: r) hp Q :=
  x_if_eq hi rfl ht (fun h => kt ((nI_z ha).mp h)) (fun h => kf (fun q => h ((nI_z ha).mpr q)))
theorem x_ifN_ne {off : Int} {t a : Nat} (hi : mPi tbP mi pc = some (.ifCond .ne off, 3)) (ht : mtgt pc off = some t) (ha : a < 2 ^ 31) (kt : ¬ a = 0 → mq mi t ml r hp Q) (kf : a = 0 → mq mi (pc + 3) ml r hp Q) : mq mi pc ml (.int (nI a) :: r) hp Q :=
  x_if_ne hi rfl ht (fun h => kt (fun q => h ((nI_z ha).mpr q))) (fun h => kf ((nI_z ha).mp h))
theorem x_ifN_lt {off : Int} {t a : Nat} (hi : mPi tbP mi pc = some (.ifCond .lt off, 3)) (ht : mtgt pc off = some t) (ha : a < 2 ^ 31) (kf : mq mi (pc + 3) ml r hp Q) : mq mi pc ml (.int (nI a) :: r) hp Q :=
  x_if_lt hi rfl ht (fun h => absurd h (nI_pos ha)) (fun _ => kf)
theorem x_ifN_ge {off : Int} {t a : Nat} (hi : mPi tbP mi pc = some (.ifCond .ge off, 3)) (ht : mtgt pc off = some t) (ha : a < 2 ^ 31) (kt : mq mi t ml r hp Q) : mq mi pc ml (.int (nI a) :: r) hp Q :=
  x_if_ge hi rfl ht (fun _ => kt) (fun h => absurd (nI_pos' ha) h)
theorem x_ifN_gt {off : Int} {t a : Nat} (hi : mPi tbP mi pc = some (.ifCond .gt off, 3)) (ht : mtgt pc off = some t) (ha : a < 2 ^ 31) (kt : 0 < a → mq mi t ml r hp Q) (kf : a = 0 → mq mi (pc + 3) ml r hp Q) : mq mi pc ml (.int (nI a) :: r) hp Q :=
  x_if_gt hi rfl ht (fun h => kt ((nI_ltI (a := 0) (by decide) ha).mp h)) (fun h => kf (Nat.eq_zero_of_not_pos (fun q => h (nI_lt (a := 0) q ha))))
theorem x_ifN_le {off : Int} {t a : Nat} (hi : mPi tbP mi pc = some (.ifCond .le off, 3)) (ht : mtgt pc off = some t) (ha : a < 2 ^ 31) (kt : a = 0 → mq mi t ml r hp Q) (kf : 0 < a → mq mi (pc + 3) ml r hp Q) : mq mi pc ml (.int (nI a) :: r) hp Q :=
  x_if_le hi rfl ht (fun h => kt (Nat.eq_zero_of_le_zero ((nI_leI (b := 0) ha (by decide)).mp h))) (fun h => kf (Nat.pos_of_ne_zero (fun q => h (nI_le (b := 0) (Nat.le_of_eq q) (by decide)))))
end S26
