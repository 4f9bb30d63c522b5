/-! A small machine over cells with numbers instead of addresses, run by fuel; part 2 shows that what it computes the JVM's model does. -/
abbrev mC : Type := (FieldType × vp_A) ⊕ (Nat × List Value)
/-- cells made (the script is cell 0), slots made, the cells -/
abbrev mHp : Type := Nat × Nat × (Nat → mC)
/-- how a method ends: it returns, or it throws the object with this number -/
abbrev mO : Type := Option Value ⊕ Nat
def mjunk : mC := .inl (.boolean, 0, .inl fun _ => 0)
def mad (b sz : Nat) : Nat → Nat
  | 0 => b
  | i + 1 => sz + i
def mcv (b sz : Nat) : Value → Value
  | .ref a => .ref (mad b sz a)
  | v => v
def mca (b sz : Nat) (x : vp_A) : vp_A := (x.1, match x.2 with
  | .inr (.inr (.inr (.inr g))) => .inr (.inr (.inr (.inr fun k => (g k).map (mad b sz))))
  | y => y)
def mce (b sz : Nat) (dA : FieldType → ClassId) : mC → va_E
  | .inl q => .inl (dA q.1, mca b sz q.2)
  | .inr q => .inr (q.1, q.2.map (mcv b sz))
/-- the program
mPb: code
mPl: locals
mPo: owner (a number of a class name)
mPr: type of the answer
mPh: handlers
mPf: owner, pool place: class, field
mPc: owner, pool place: callee, parameters, kind (0 static, 1 virtual, 2 constructor, 3 constructor of Object)
mPn: new: class, slots, first fields
mPa: anewarray
mPk: constants (null: a text)
mPx: new of a class that is thrown: class, slots, pool place of the constructor
mPt: owner, catch type, class: does it take it
mPv: class of the receiver
mPy: type of a field
mPg: name of a class
mPq: is a field final
mPz: is a method a constructor
mPw: frames and words that a method needs above its own
mPi: instructions -/
abbrev mP : Type := (Nat → ByteArray) × (Nat → Nat) × (Nat → Nat) × (Nat → Option FieldType) × (Nat → List (Nat × Nat × Nat × Nat)) × (Nat → Nat → Option (Nat × Nat)) × (Nat → Nat → Option (Nat × Nat × Nat)) × (Nat → Nat → Option (Nat × Nat × List Value)) × (Nat → Nat → Option String) × (Nat → Nat → Option Value) × (Nat → Nat → Option (Nat × Nat × Nat)) × (Nat → Nat → Nat → Bool) × (Nat → Nat) × (Nat → Nat → FieldType) × (Nat → String) × (Nat → Nat → Bool) × (Nat → Bool) × (Nat → Nat × Nat) × (Nat → Nat → Option (Instr × Nat))
abbrev mPb (P : mP) : Nat → ByteArray := P.1
abbrev mPl (P : mP) : Nat → Nat := P.2.1
abbrev mPo (P : mP) : Nat → Nat := P.2.2.1
abbrev mPr (P : mP) : Nat → Option FieldType := P.2.2.2.1
abbrev mPh (P : mP) : Nat → List (Nat × Nat × Nat × Nat) := P.2.2.2.2.1
abbrev mPf (P : mP) : Nat → Nat → Option (Nat × Nat) := P.2.2.2.2.2.1
abbrev mPc (P : mP) : Nat → Nat → Option (Nat × Nat × Nat) := P.2.2.2.2.2.2.1
abbrev mPn (P : mP) : Nat → Nat → Option (Nat × Nat × List Value) := P.2.2.2.2.2.2.2.1
abbrev mPa (P : mP) : Nat → Nat → Option String := P.2.2.2.2.2.2.2.2.1
abbrev mPk (P : mP) : Nat → Nat → Option Value := P.2.2.2.2.2.2.2.2.2.1
abbrev mPx (P : mP) : Nat → Nat → Option (Nat × Nat × Nat) := P.2.2.2.2.2.2.2.2.2.2.1
abbrev mPt (P : mP) : Nat → Nat → Nat → Bool := P.2.2.2.2.2.2.2.2.2.2.2.1
abbrev mPv (P : mP) : Nat → Nat := P.2.2.2.2.2.2.2.2.2.2.2.2.1
abbrev mPy (P : mP) : Nat → Nat → FieldType := P.2.2.2.2.2.2.2.2.2.2.2.2.2.1
abbrev mPg (P : mP) : Nat → String := P.2.2.2.2.2.2.2.2.2.2.2.2.2.2.1
abbrev mPq (P : mP) : Nat → Nat → Bool := P.2.2.2.2.2.2.2.2.2.2.2.2.2.2.2.1
abbrev mPz (P : mP) : Nat → Bool := P.2.2.2.2.2.2.2.2.2.2.2.2.2.2.2.2.1
abbrev mPw (P : mP) : Nat → Nat × Nat := P.2.2.2.2.2.2.2.2.2.2.2.2.2.2.2.2.2.1
abbrev mPi (P : mP) : Nat → Nat → Option (Instr × Nat) := P.2.2.2.2.2.2.2.2.2.2.2.2.2.2.2.2.2.2
abbrev mLs : Type := List (Option Value)
abbrev mF : Type := Nat × mLs × List Value × mHp
def mget (ml : mLs) (i : Nat) : Option Value := match ml[i]? with
  | some (some v) => some v
  | _ => none
def mkill (ml : mLs) : Nat → mLs
  | 0 => ml
  | k + 1 => match mget ml k with
    | some (.long _) => ml.set k none
    | some (.double _) => ml.set k none
    | _ => ml
def mset1 (ml : mLs) (i : Nat) (v : Value) : Option mLs := if i < ml.length then some ((mkill ml i).set i (some v)) else none
def mset2 (ml : mLs) (i : Nat) (v : Value) : Option mLs := if i + 1 < ml.length then some (((mkill ml i).set i (some v)).set (i + 1) none) else none
def mcnd (c : ClassFile.Cond) (x y : Int32) : Bool := match c with
  | .eq => decide (x = y)
  | .ne => decide (¬ x = y)
  | .lt => decide (x < y)
  | .ge => decide (y ≤ x)
  | .gt => decide (y < x)
  | .le => decide (x ≤ y)
def mIn (j : Int32) (n : Nat) : Bool := !(decide (j < 0)) && decide (j.toNatClampNeg < n)
/-- where a jump goes -/
def mtgt (pc : Nat) (off : Int) : Option Nat := if 0 ≤ (pc : Int) + off then some ((pc : Int) + off).toNat else none
def mldI (ml : mLs) (i : Nat) (k : Value → Option mF) : Option mF := match mget ml i with
  | some (.int x) => k (.int x)
  | _ => none
def mldL (ml : mLs) (i : Nat) (k : Value → Option mF) : Option mF := match mget ml i with
  | some (.long x) => k (.long x)
  | _ => none
def mldA (ml : mLs) (i : Nat) (k : Value → Option mF) : Option mF := match mget ml i with
  | some (.ref x) => k (.ref x)
  | _ => none
def mstI (pc i : Nat) (ml : mLs) (st : List Value) (hp : mHp) : Option mF := match st with
  | .int x :: r => match mset1 ml i (.int x) with
    | some ml' => some (pc, ml', r, hp)
    | none => none
  | _ => none
def mstL (pc i : Nat) (ml : mLs) (st : List Value) (hp : mHp) : Option mF := match st with
  | .long x :: r => match mset2 ml i (.long x) with
    | some ml' => some (pc, ml', r, hp)
    | none => none
  | _ => none
def mstA (pc i : Nat) (ml : mLs) (st : List Value) (hp : mHp) : Option mF := match st with
  | .ref x :: r => match mset1 ml i (.ref x) with
    | some ml' => some (pc, ml', r, hp)
    | none => none
  | _ => none
def minc (pc i : Nat) (n : Int) (ml : mLs) (st : List Value) (hp : mHp) : Option mF := match mget ml i with
  | some (.int x) => match mset1 ml i (.int (x + Int32.ofInt n)) with
    | some ml' => some (pc, ml', st, hp)
    | none => none
  | _ => none
def mII (f : Int32 → Int32 → Int32) (pc : Nat) (ml : mLs) (st : List Value) (hp : mHp) : Option mF := match st with
  | .int y :: .int x :: r => some (pc, ml, .int (f x y) :: r, hp)
  | _ => none
def mLL (f : Int64 → Int64 → Int64) (pc : Nat) (ml : mLs) (st : List Value) (hp : mHp) : Option mF := match st with
  | .long y :: .long x :: r => some (pc, ml, .long (f x y) :: r, hp)
  | _ => none
def mI1 (f : Int32 → Value) (pc : Nat) (ml : mLs) (st : List Value) (hp : mHp) : Option mF := match st with
  | .int x :: r => some (pc, ml, f x :: r, hp)
  | _ => none
def mL1 (f : Int64 → Value) (pc : Nat) (ml : mLs) (st : List Value) (hp : mHp) : Option mF := match st with
  | .long x :: r => some (pc, ml, f x :: r, hp)
  | _ => none
def mcmpL (pc : Nat) (ml : mLs) (st : List Value) (hp : mHp) : Option mF := match st with
  | .long y :: .long x :: r => some (pc, ml, .int (lg_cmp x y) :: r, hp)
  | _ => none
def mdiv (pc : Nat) (ml : mLs) (st : List Value) (hp : mHp) : Option mF := match st with
  | .int y :: .int x :: r => if y = 0 then none else some (pc, ml, .int (x / y) :: r, hp)
  | _ => none
def mdup (pc : Nat) (ml : mLs) (st : List Value) (hp : mHp) : Option mF := match st with
  | v :: r => if v.category = 1 then some (pc, ml, v :: v :: r, hp) else none
  | _ => none
def mpop (pc : Nat) (ml : mLs) (st : List Value) (hp : mHp) : Option mF := match st with
  | v :: r => if v.category = 1 then some (pc, ml, r, hp) else none
  | _ => none
def mdupx (pc : Nat) (ml : mLs) (st : List Value) (hp : mHp) : Option mF := match st with
  | v :: w :: r => if v.category = 1 ∧ w.category = 1 then some (pc, ml, v :: w :: v :: r, hp) else none
  | _ => none
def mdup2 (pc : Nat) (ml : mLs) (st : List Value) (hp : mHp) : Option mF := match st with
  | v :: w :: r => if v.category = 1 ∧ w.category = 1 then some (pc, ml, v :: w :: v :: w :: r, hp) else none
  | _ => none
def mjmp (pc : Nat) (off : Int) (ml : mLs) (st : List Value) (hp : mHp) : Option mF := match mtgt pc off with
  | some t => some (t, ml, st, hp)
  | none => none
def mif (c : ClassFile.Cond) (pc : Nat) (off : Int) (ml : mLs) (st : List Value) (hp : mHp) : Option mF := match st, mtgt pc off with
  | .int x :: r, some t => if mcnd c x 0 = true then some (t, ml, r, hp) else some (pc + 3, ml, r, hp)
  | _, _ => none
def micmp (c : ClassFile.Cond) (pc : Nat) (off : Int) (ml : mLs) (st : List Value) (hp : mHp) : Option mF := match st, mtgt pc off with
  | .int y :: .int x :: r, some t => if mcnd c x y = true then some (t, ml, r, hp) else some (pc + 3, ml, r, hp)
  | _, _ => none
def mtab (d lo hi : Int) (offs : Array Int) (pc : Nat) (ml : mLs) (st : List Value) (hp : mHp) : Option mF := match st with
  | .int x :: r => if x.toInt < lo ∨ hi < x.toInt then mjmp pc d ml r hp else match offs[(x.toInt - lo).toNat]? with
    | some off => mjmp pc off ml r hp
    | none => none
  | _ => none
def mgetf (P : mP) (o i pc : Nat) (ml : mLs) (st : List Value) (hp : mHp) : Option mF := match st, mPf P o i with
  | .ref a :: r, some (ci, k) => match hp.2.2 a with
    | .inr (cj, fs) => if cj = ci then match fs[k]? with
      | some v => some (pc, ml, v :: r, hp)
      | none => none
      else none
    | _ => none
  | _, _ => none
/-- what a field of a class takes -/
def mfit (v : Value) : FieldType → Bool
  | .int => match v with
    | .int _ => true
    | _ => false
  | .long => match v with
    | .long _ => true
    | _ => false
  | .boolean => match v with
    | .int x => decide (x = 0 ∨ x = 1)
    | _ => false
  | .object _ => match v with
    | .ref _ => true
    | _ => false
  | .array _ => match v with
    | .ref _ => true
    | _ => false
  | _ => false
def mputf (P : mP) (ini : Bool) (o i pc : Nat) (ml : mLs) (st : List Value) (hp : mHp) : Option mF := match st, mPf P o i with
  | v :: .ref a :: r, some (ci, k) => match hp.2.2 a with
    | .inr (cj, fs) => if cj = ci ∧ k < fs.length ∧ mfit v (mPy P ci k) = true ∧ (mPq P ci k = false ∨ (ini = true ∧ o = ci)) then some (pc, ml, r, hp.1, hp.2.1, va_up hp.2.2 a (.inr (ci, fs.set k v))) else none
    | _ => none
  | _, _ => none
def miald (pc : Nat) (ml : mLs) (st : List Value) (hp : mHp) : Option mF := match st with
  | .int j :: .ref a :: r => match hp.2.2 a with
    | .inl (ty, n, .inl f) => if (ty = .int ∨ a = 0) ∧ mIn j n = true then some (pc, ml, .int (f j.toNatClampNeg) :: r, hp) else none
    | _ => none
  | _ => none
def miast (pc : Nat) (ml : mLs) (st : List Value) (hp : mHp) : Option mF := match st with
  | .int x :: .int j :: .ref a :: r => match hp.2.2 a with
    | .inl (ty, n, .inl f) => if ty = .int ∧ mIn j n = true then some (pc, ml, r, hp.1, hp.2.1, va_up hp.2.2 a (.inl (ty, n, .inl (upd f j.toNatClampNeg x)))) else none
    | _ => none
  | _ => none
def mlald (pc : Nat) (ml : mLs) (st : List Value) (hp : mHp) : Option mF := match st with
  | .int j :: .ref a :: r => match hp.2.2 a with
    | .inl (ty, n, .inr (.inl f)) => if ty = .long ∧ mIn j n = true then some (pc, ml, .long (f j.toNatClampNeg) :: r, hp) else none
    | _ => none
  | _ => none
def mlast (pc : Nat) (ml : mLs) (st : List Value) (hp : mHp) : Option mF := match st with
  | .long x :: .int j :: .ref a :: r => match hp.2.2 a with
    | .inl (ty, n, .inr (.inl f)) => if ty = .long ∧ mIn j n = true then some (pc, ml, r, hp.1, hp.2.1, va_up hp.2.2 a (.inl (ty, n, .inr (.inl (vp_updL f j.toNatClampNeg x))))) else none
    | _ => none
  | _ => none
def maald (pc : Nat) (ml : mLs) (st : List Value) (hp : mHp) : Option mF := match st with
  | .int j :: .ref a :: r => match hp.2.2 a with
    | .inl (.object _, n, .inr (.inr (.inr (.inr f)))) => if mIn j n = true then match f j.toNatClampNeg with
      | some v => some (pc, ml, .ref v :: r, hp)
      | none => none
      else none
    | _ => none
  | _ => none
def maast (P : mP) (pc : Nat) (ml : mLs) (st : List Value) (hp : mHp) : Option mF := match st with
  | .ref v :: .int j :: .ref a :: r => match hp.2.2 a, hp.2.2 v with
    | .inl (ty, n, .inr (.inr (.inr (.inr f)))), .inr (ci, _) => if ty = .object (mPg P ci) ∧ mIn j n = true then some (pc, ml, r, hp.1, hp.2.1, va_up hp.2.2 a (.inl (ty, n, .inr (.inr (.inr (.inr (va_up f j.toNatClampNeg (some v)))))))) else none
    | _, _ => none
  | _ => none
def malen (pc : Nat) (ml : mLs) (st : List Value) (hp : mHp) : Option mF := match st with
  | .ref a :: r => match hp.2.2 a with
    | .inl (ty, n, _) => if ty ≠ .boolean ∨ a = 0 then some (pc, ml, .int (Int32.ofNat n) :: r, hp) else none
    | _ => none
  | _ => none
def mroom (CM SM k : Nat) (hp : mHp) : Bool := decide (hp.1 < CM) && decide (hp.2.1 + k ≤ SM)
def mnewa (CM SM : Nat) (ty : FieldType) (pc : Nat) (ml : mLs) (st : List Value) (hp : mHp) : Option mF := match st with
  | .int n :: r => if ¬ n < 0 ∧ n.toNatClampNeg ≤ 1000000 ∧ mroom CM SM n.toNatClampNeg hp = true then match ty with
    | .int => some (pc, ml, .ref hp.1 :: r, hp.1 + 1, hp.2.1 + n.toNatClampNeg, va_up hp.2.2 hp.1 (.inl (.int, n.toNatClampNeg, .inl fun _ => 0)))
    | .long => some (pc, ml, .ref hp.1 :: r, hp.1 + 1, hp.2.1 + n.toNatClampNeg, va_up hp.2.2 hp.1 (.inl (.long, n.toNatClampNeg, .inr (.inl fun _ => 0))))
    | _ => none
    else none
  | _ => none
def manew (P : mP) (CM SM o i pc : Nat) (ml : mLs) (st : List Value) (hp : mHp) : Option mF := match st, mPa P o i with
  | .int n :: r, some C => if ¬ n < 0 ∧ n.toNatClampNeg ≤ 1000000 ∧ mroom CM SM n.toNatClampNeg hp = true then
      some (pc, ml, .ref hp.1 :: r, hp.1 + 1, hp.2.1 + n.toNatClampNeg, va_up hp.2.2 hp.1 (.inl (.object C, n.toNatClampNeg, .inr (.inr (.inr (.inr fun _ => none))))))
    else none
  | _, _ => none
def mnew (P : mP) (CM SM o i pc : Nat) (ml : mLs) (st : List Value) (hp : mHp) : Option mF := match mPn P o i with
  | some (ci, k, fs) => if mroom CM SM k hp = true then some (pc, ml, .ref hp.1 :: st, hp.1 + 1, hp.2.1 + k, va_up hp.2.2 hp.1 (.inr (ci, fs))) else none
  | none => none
def mldc (P : mP) (o i pc : Nat) (ml : mLs) (st : List Value) (hp : mHp) : Option mF := match mPk P o i with
  | some (.int v) => some (pc, ml, .int v :: st, hp)
  | _ => none
def mldc2 (P : mP) (o i pc : Nat) (ml : mLs) (st : List Value) (hp : mHp) : Option mF := match mPk P o i with
  | some (.long v) => some (pc, ml, .long v :: st, hp)
  | _ => none
/-- how long an instruction is -/
def mlen : Instr → Nat
  | .iload _ | .aload _ | .lload _ | .istore _ | .astore _ | .lstore _ | .bipush _ | .ldc _ | .newarray _ => 2
  | .sipush _ | .ldc2_w _ | .iinc _ _ | .ifCond _ _ | .if_icmp _ _ | .goto _ | .getfield _ | .putfield _ | .anewarray _ | .new _ | .invokevirtual _ | .invokespecial _ | .invokestatic _ => 3
  | _ => 1
def mlok (ins : Instr) (len : Nat) : Bool := match ins with
  | .tableswitch _ _ _ _ => true
  | _ => decide (len = mlen ins)
def mstep (P : mP) (CM SM : Nat) (ini : Bool) (o : Nat) (ins : Instr) (pc : Nat) (ml : mLs) (st : List Value) (hp : mHp) : Option mF := match ins with
  | .iconst n => some (pc + 1, ml, .int (Int32.ofInt n) :: st, hp)
  | .bipush n => some (pc + 2, ml, .int (Int8.ofInt n).toInt32 :: st, hp)
  | .sipush n => some (pc + 3, ml, .int (Int16.ofInt n).toInt32 :: st, hp)
  | .lconst n => some (pc + 1, ml, .long (Int64.ofNat (n : Nat)) :: st, hp)
  | .ldc i => mldc P o i (pc + 2) ml st hp
  | .ldc2_w i => mldc2 P o i (pc + 3) ml st hp
  | .iload i => mldI ml i fun v => some (pc + 2, ml, v :: st, hp)
  | .iload_n i => mldI ml i fun v => some (pc + 1, ml, v :: st, hp)
  | .aload i => mldA ml i fun v => some (pc + 2, ml, v :: st, hp)
  | .aload_n i => mldA ml i fun v => some (pc + 1, ml, v :: st, hp)
  | .lload i => mldL ml i fun v => some (pc + 2, ml, v :: st, hp)
  | .lload_n i => mldL ml i fun v => some (pc + 1, ml, v :: st, hp)
  | .istore i => mstI (pc + 2) i ml st hp
  | .istore_n i => mstI (pc + 1) i ml st hp
  | .astore i => mstA (pc + 2) i ml st hp
  | .astore_n i => mstA (pc + 1) i ml st hp
  | .lstore i => mstL (pc + 2) i ml st hp
  | .lstore_n i => mstL (pc + 1) i ml st hp
  | .iinc i n => minc (pc + 3) i n ml st hp
  | .iadd => mII (fun x y => x + y) (pc + 1) ml st hp
  | .isub => mII (fun x y => x - y) (pc + 1) ml st hp
  | .imul => mII (fun x y => x * y) (pc + 1) ml st hp
  | .iand => mII (fun x y => x &&& y) (pc + 1) ml st hp
  | .ior => mII (fun x y => x ||| y) (pc + 1) ml st hp
  | .ixor => mII (fun x y => x ^^^ y) (pc + 1) ml st hp
  | .ishl => mII (fun x y => x <<< (y &&& 31)) (pc + 1) ml st hp
  | .ishr => mII (fun x y => x >>> (y &&& 31)) (pc + 1) ml st hp
  | .iushr => mII (fun x y => (x.toUInt32 >>> (y.toUInt32 &&& Int32.toUInt32 31)).toInt32) (pc + 1) ml st hp
  | .idiv => mdiv (pc + 1) ml st hp
  | .ineg => mI1 (fun x => .int (-x)) (pc + 1) ml st hp
  | .i2l => mI1 (fun x => .long x.toInt64) (pc + 1) ml st hp
  | .l2i => mL1 (fun x => .int x.toInt32) (pc + 1) ml st hp
  | .ladd => mLL (fun x y => x + y) (pc + 1) ml st hp
  | .lsub => mLL (fun x y => x - y) (pc + 1) ml st hp
  | .lcmp => mcmpL (pc + 1) ml st hp
  | .dup => mdup (pc + 1) ml st hp
  | .pop => mpop (pc + 1) ml st hp
  | .dup_x1 => mdupx (pc + 1) ml st hp
  | .dup2 => mdup2 (pc + 1) ml st hp
  | .goto off => mjmp pc off ml st hp
  | .ifCond c off => mif c pc off ml st hp
  | .if_icmp c off => micmp c pc off ml st hp
  | .tableswitch d lo hi offs => mtab d lo hi offs pc ml st hp
  | .getfield i => mgetf P o i (pc + 3) ml st hp
  | .putfield i => mputf P ini o i (pc + 3) ml st hp
  | .iaload => miald (pc + 1) ml st hp
  | .iastore => miast (pc + 1) ml st hp
  | .laload => mlald (pc + 1) ml st hp
  | .lastore => mlast (pc + 1) ml st hp
  | .aaload => maald (pc + 1) ml st hp
  | .aastore => maast P (pc + 1) ml st hp
  | .arraylength => malen (pc + 1) ml st hp
  | .newarray t => mnewa CM SM (newarray.typeOf t) (pc + 2) ml st hp
  | .anewarray i => manew P CM SM o i (pc + 3) ml st hp
  | .new i => mnew P CM SM o i (pc + 3) ml st hp
  | _ => none
/-- the last k values of the stack, the first first, and what is below -/
def mspl : Nat → List Value → List Value → Option (List Value × List Value)
  | 0, acc, st => some (acc, st)
  | k + 1, acc, v :: st => mspl k (v :: acc) st
  | _ + 1, _, [] => none
/-- a method's locals at its entry -/
def margs (vs : List Value) : mLs := vs.flatMap fun v => if v.category = 2 then [some v, none] else [some v]
def ment (n : Nat) (vs : List Value) : mLs := margs vs ++ List.replicate (n - (margs vs).length) none
/-- what a call hands over: callee, arguments, the stack below -/
def mcall (P : mP) (o : Nat) (ins : Instr) (st : List Value) (hp : mHp) : Option (Nat × List Value × List Value) := match ins with
  | .invokestatic i => match mPc P o i with
    | some (j, k, 0) => match mspl k [] st with
      | some (as, r) => some (j, as, r)
      | none => none
    | _ => none
  | .invokevirtual i => match mPc P o i with
    | some (j, k, 1) => match mspl k [] st with
      | some (as, .ref a :: r) => match hp.2.2 a with
        | .inr (ci, _) => if ci = mPv P j then some (j, .ref a :: as, r) else none
        | _ => none
      | _ => none
    | _ => none
  | .invokespecial i => match mPc P o i with
    | some (j, k, 2) => match mspl k [] st with
      | some (as, .ref a :: r) => some (j, .ref a :: as, r)
      | _ => none
    | _ => none
  | _ => none
/-- the constructor of Object: nothing happens -/
def mobj (P : mP) (o : Nat) (ins : Instr) (st : List Value) : Option (List Value) := match ins with
  | .invokespecial i => match mPc P o i, st with
    | some (_, _, 3), .ref _ :: r => some r
    | _, _ => none
  | _ => none
/-- where a thrown object of class ci is caught -/
def mfind (P : mP) (o ci pc : Nat) : List (Nat × Nat × Nat × Nat) → Option Nat
  | [] => none
  | h :: t => if h.1 ≤ pc ∧ pc < h.2.1 ∧ mPt P o h.2.2.2 ci = true then some h.2.2.1 else mfind P o ci pc t
def mcls (hp : mHp) (x : Nat) : Nat := match hp.2.2 x with
  | .inr (ci, _) => ci
  | _ => 0
def mretv (P : mP) (mi : Nat) (ins : Instr) (st : List Value) : Option (Option Value) := match ins, st, mPr P mi with
  | .return_, [], none => some none
  | .ireturn, [.int v], some .int => some (some (.int v))
  | .ireturn, [.int v], some .boolean => if v = 0 ∨ v = 1 then some (some (.int v)) else none
  | .areturn, [.ref a], some (.object _) => some (some (.ref a))
  | .lreturn, [.long v], some .long => some (some (.long v))
  | _, _, _ => none
/-- new, dup, ldc, the constructor of a throwable with a text, athrow: class and slots of what is thrown -/
def mthr (P : mP) (mi : Nat) (ins : Instr) (pc : Nat) : Option (Nat × Nat) := match ins with
  | .new i => match mPx P (mPo P mi) i, mPi P mi (pc + 3), mPi P mi (pc + 4) with
    | some (ci, k, z), some (.dup, 1), some (.ldc q, 2) => match mPi P mi (pc + 4 + 2), mPi P mi (pc + 7 + 2) with
      | some (.invokespecial z', 3), some (.athrow, 1) => if mPk P (mPo P mi) q = some .null ∧ z = z' then some (ci, k) else none
      | _, _ => none
    | some (ci, k, z), some (.dup, 1), some (.ldc_w q, 3) => match mPi P mi (pc + 4 + 3), mPi P mi (pc + 7 + 3) with
      | some (.invokespecial z', 3), some (.athrow, 1) => if mPk P (mPo P mi) q = some .null ∧ z = z' then some (ci, k) else none
      | _, _ => none
    | _, _, _ => none
  | _ => none
/-- words of a stack -/
def mwd (r : List Value) : Nat := (r.map fun v => v.category).sum
def mrun (P : mP) (CM SM : Nat) : Nat → Nat → Nat → mLs → List Value → mHp → Option (mO × mHp)
  | 0, _, _, _, _, _ => none
  | n + 1, mi, pc, ml, st, hp => match mPi P mi pc with
    | some (ins, len) => match mretv P mi ins st with
      | some v => if len = 1 then some (.inl v, hp) else none
      | none => match mcall P (mPo P mi) ins st hp with
        | some (j, as, r) => if len = 3 ∧ (mPw P j).1 + 1 ≤ (mPw P mi).1 ∧ mwd r + (mPl P j + 11) + (mPw P j).2 ≤ (mPw P mi).2 ∧ (margs as).length ≤ mPl P j then match mrun P CM SM n j 0 (ment (mPl P j) as) [] hp with
            | some (.inl v, hp') => mrun P CM SM n mi (pc + 3) ml (v.toList ++ r) hp'
            | some (.inr x, hp') => match mfind P (mPo P mi) (mcls hp' x) pc (mPh P mi) with
              | some t => mrun P CM SM n mi t ml [.ref x] hp'
              | none => if mPh P mi = [] then some (.inr x, hp') else none
            | none => none
          else none
        | none => match mobj P (mPo P mi) ins st with
          | some r => if len = 3 ∧ 1 ≤ (mPw P mi).1 ∧ mwd r + 12 ≤ (mPw P mi).2 then mrun P CM SM n mi (pc + 3) ml r hp else none
          | none => match mthr P mi ins pc with
            | some (ci, k) => if mroom CM SM k hp = true ∧ mPh P mi = [] ∧ len = 3 ∧ 6 ≤ (mPw P mi).1 ∧ mwd st + 82 ≤ (mPw P mi).2 then some (.inr hp.1, hp.1 + 1, hp.2.1 + k, va_up hp.2.2 hp.1 (.inr (ci, []))) else none
            | none => if mlok ins len = true then match mstep P CM SM (mPz P mi) (mPo P mi) ins pc ml st hp with
              | some (pc', ml', st', hp') => mrun P CM SM n mi pc' ml' st' hp'
              | none => none
              else none
    | none => none
def okD (P : mP) : Prop := ∀ mi pc x, mPi P mi pc = some x → decode (mPb P mi) pc = .ok x
