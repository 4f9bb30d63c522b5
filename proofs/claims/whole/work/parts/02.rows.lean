/-! What the small machine's state says of the JVM's, and a row for each instruction. -/
theorem mget_eq {ml : mLs} {i : Nat} {v : Value} (h : mget ml i = some v) : ml[i]? = some (some v) := by
  unfold mget at h
  split at h
  · next w hw => cases h; exact hw
  · cases h
theorem mget_of {ml : mLs} {i : Nat} {v : Value} (h : ml[i]? = some (some v)) : mget ml i = some v := by
  unfold mget
  rw [h]
theorem mcv_cat (b sz : Nat) (v : Value) : (mcv b sz v).category = v.category := by cases v <;> rfl
def mLr (b sz : Nat) (ls : Array Slot) (nL : Nat) (ml : mLs) : Prop := ls.size = nL ∧ lv_wf ls ∧ ml.length ≤ nL ∧ ∀ (i : Nat) (v : Value), ml[i]? = some (some v) → ls[i]? = some (.val (mcv b sz v))
def mas (b sz : Nat) (ml : mLs) : List (Nat × Value) := (List.range ml.length).filterMap fun i => (mget ml i).map fun v => (i, mcv b sz v)
theorem mas_in {b sz : Nat} {ml : mLs} {i : Nat} {v : Value} (h : ml[i]? = some (some v)) : (i, mcv b sz v) ∈ mas b sz ml := by
  have hi : i < ml.length := (List.getElem?_eq_some_iff.mp h).1
  refine List.mem_filterMap.mpr ⟨i, List.mem_range.mpr hi, ?_⟩
  rw [mget_of h]
  rfl
theorem mas_of {b sz : Nat} {ml : mLs} {q : Nat × Value} (h : q ∈ mas b sz ml) : ∃ v, ml[q.1]? = some (some v) ∧ q.2 = mcv b sz v := by
  obtain ⟨i, -, hi⟩ := List.mem_filterMap.mp h
  cases hg : mget ml i with
  | none => rw [hg] at hi; cases hi
  | some v =>
    rw [hg] at hi
    cases hi
    exact ⟨v, mget_eq hg, rfl⟩
theorem mLr.has {b sz nL : Nat} {ls : Array Slot} {ml : mLs} (h : mLr b sz ls nL ml) : lv_has ls nL (mas b sz ml) := ⟨h.1, h.2.1, fun q hq => by
  obtain ⟨v, h1, h2⟩ := mas_of hq
  rw [h2]
  exact h.2.2.2 _ _ h1⟩
theorem mkill_len (ml : mLs) (i : Nat) : (mkill ml i).length = ml.length := by
  cases i with
  | zero => rfl
  | succ k =>
    simp only [mkill]
    split <;> simp
theorem mset_at {ml : mLs} {i j : Nat} {x : Option Value} {w : Value} (h : (ml.set i x)[j]? = some (some w)) : (i = j ∧ x = some w) ∨ (¬ i = j ∧ ml[j]? = some (some w)) := by
  rw [List.getElem?_set] at h
  by_cases hij : i = j
  · rw [if_pos hij] at h
    split at h
    · cases h
      exact Or.inl ⟨hij, rfl⟩
    · cases h
  · rw [if_neg hij] at h
    exact Or.inr ⟨hij, h⟩
theorem mkill_at {ml : mLs} {i j : Nat} {w : Value} (hj : (mkill ml i)[j]? = some (some w)) : ml[j]? = some (some w) ∧ ¬ (j + 1 = i ∧ w.category = 2) := by
  cases i with
  | zero => exact ⟨hj, fun h => by omega⟩
  | succ k =>
    simp only [mkill] at hj
    split at hj
    · rcases mset_at hj with ⟨-, h⟩ | ⟨h1, h2⟩
      · cases h
      · exact ⟨h2, fun h => h1 (by omega)⟩
    · rcases mset_at hj with ⟨-, h⟩ | ⟨h1, h2⟩
      · cases h
      · exact ⟨h2, fun h => h1 (by omega)⟩
    · next h1 h2 =>
      refine ⟨hj, fun ⟨h3, h4⟩ => ?_⟩
      have hjk : j = k := by omega
      subst hjk
      have hg := mget_of hj
      cases w with
      | long x => exact h1 x hg
      | double x => exact h2 x hg
      | _ => cases h4
theorem mLr.st1 {b sz nL i : Nat} {ls ls' : Array Slot} {ml ml' : mLs} {v : Value} (h : mLr b sz ls nL ml) (hm : mset1 ml i v = some ml')
    (h' : lv_has ls' nL ((i, mcv b sz v) :: (mas b sz ml).filter (fun q => !(q.1 == i) && !(q.1 + 1 == i && q.2.category == 2)))) : mLr b sz ls' nL ml' := by
  unfold mset1 at hm
  split at hm
  · cases hm
    refine ⟨h'.1, h'.2.1, by rw [List.length_set, mkill_len]; exact h.2.2.1, fun j w hj => ?_⟩
    rcases mset_at hj with ⟨h1, h2⟩ | ⟨h1, h2⟩
    · cases h2
      subst h1
      exact h'.2.2 _ List.mem_cons_self
    · obtain ⟨h3, h4⟩ := mkill_at h2
      refine h'.2.2 (j, mcv b sz w) (List.mem_cons_of_mem _ (List.mem_filter.mpr ⟨mas_in h3, ?_⟩))
      have e1 : (j == i) = false := beq_eq_false_iff_ne.mpr (Ne.symm h1)
      have e2 : (j + 1 == i && (mcv b sz w).category == 2) = false := by
        rw [mcv_cat]
        by_cases h5 : j + 1 = i
        · have h6 : ¬ w.category = 2 := fun h6 => h4 ⟨h5, h6⟩
          rw [beq_eq_false_iff_ne.mpr h6, Bool.and_false]
        · rw [beq_eq_false_iff_ne.mpr h5, Bool.false_and]
      show (!(j == i) && !(j + 1 == i && (mcv b sz w).category == 2)) = true
      rw [e1, e2]
      rfl
  · cases hm
theorem mLr.st2 {b sz nL i : Nat} {ls ls' : Array Slot} {ml ml' : mLs} {v : Value} (h : mLr b sz ls nL ml) (hm : mset2 ml i v = some ml')
    (h' : lv_has ls' nL ((i, mcv b sz v) :: (mas b sz ml).filter (fun q => !(q.1 == i) && (!(q.1 == i + 1) && !(q.1 + 1 == i && q.2.category == 2))))) : mLr b sz ls' nL ml' := by
  unfold mset2 at hm
  split at hm
  · cases hm
    refine ⟨h'.1, h'.2.1, by rw [List.length_set, List.length_set, mkill_len]; exact h.2.2.1, fun j w hj => ?_⟩
    rcases mset_at hj with ⟨-, h2⟩ | ⟨h0, hj⟩
    · cases h2
    rcases mset_at hj with ⟨h1, h2⟩ | ⟨h1, h2⟩
    · cases h2
      subst h1
      exact h'.2.2 _ List.mem_cons_self
    · obtain ⟨h3, h4⟩ := mkill_at h2
      refine h'.2.2 (j, mcv b sz w) (List.mem_cons_of_mem _ (List.mem_filter.mpr ⟨mas_in h3, ?_⟩))
      have e1 : (j == i) = false := beq_eq_false_iff_ne.mpr (Ne.symm h1)
      have e3 : (j == i + 1) = false := beq_eq_false_iff_ne.mpr (Ne.symm h0)
      have e2 : (j + 1 == i && (mcv b sz w).category == 2) = false := by
        rw [mcv_cat]
        by_cases h5 : j + 1 = i
        · have h6 : ¬ w.category = 2 := fun h6 => h4 ⟨h5, h6⟩
          rw [beq_eq_false_iff_ne.mpr h6, Bool.and_false]
        · rw [beq_eq_false_iff_ne.mpr h5, Bool.false_and]
      show (!(j == i) && (!(j == i + 1) && !(j + 1 == i && (mcv b sz w).category == 2))) = true
      rw [e1, e2, e3]
      rfl
  · cases hm
/-- what stays the same over the whole run: script's address, where new cells begin, class numbers and places of fields, classes, array classes, types of arrays, the script's length, ints and cell, the heap at the start, texts, classes that cannot be cast -/
abbrev mG : Type := Nat × Nat × va_G × List vw_C × (FieldType → ClassId) × List FieldType × Nat × (Nat → Int32) × Cell × Heap × List (String × Nat) × List (String × String)
abbrev gb (G : mG) : Nat := G.1
abbrev gs (G : mG) : Nat := G.2.1
abbrev gD (G : mG) : va_G := G.2.2.1
abbrev gc (G : mG) : List vw_C := G.2.2.2.1
abbrev gA (G : mG) : FieldType → ClassId := G.2.2.2.2.1
abbrev gt (G : mG) : List FieldType := G.2.2.2.2.2.1
abbrev gL (G : mG) : Nat := G.2.2.2.2.2.2.1
abbrev gx (G : mG) : Nat → Int32 := G.2.2.2.2.2.2.2.1
abbrev gr (G : mG) : Cell := G.2.2.2.2.2.2.2.2.1
abbrev gh (G : mG) : Heap := G.2.2.2.2.2.2.2.2.2.1
abbrev gS (G : mG) : List (String × Nat) := G.2.2.2.2.2.2.2.2.2.2.1
abbrev gN (G : mG) : List (String × String) := G.2.2.2.2.2.2.2.2.2.2.2
abbrev gv (G : mG) : Value → Value := mcv (gb G) (gs G)
def mtag (tl : List FieldType) : mC → Prop
  | .inl q => q.1 ∈ tl
  | .inr _ => True
def mHr (G : mG) (H : Heap) (hp : mHp) : Prop :=
  1 ≤ hp.1 ∧ H.size + 1 = gs G + hp.1 ∧ (∀ i, i + 1 < hp.1 → va_at (gD G) (gc G) (gs G + i, mce (gb G) (gs G) (gA G) (hp.2.2 (i + 1))) H ∧ mtag (gt G) (hp.2.2 (i + 1))) ∧
  hp.2.2 0 = .inl (.boolean, gL G, .inl (gx G)) ∧ (∀ a, hp.1 ≤ a → hp.2.2 a = mjunk) ∧ gb G < gs G ∧ ∀ q : Nat, q < gs G → H[q]? = (gh G)[q]?
theorem mHr.obj {G : mG} {H : Heap} {hp : mHp} (h : mHr G H hp) {a ci : Nat} {fs : List Value} (ha : hp.2.2 a = .inr (ci, fs)) :
    ∃ i, a = i + 1 ∧ i + 1 < hp.1 ∧ mad (gb G) (gs G) a = gs G + i ∧ va_at (gD G) (gc G) (gs G + i, .inr (ci, fs.map (gv G))) H := by
  obtain ⟨h1, h2, h3, h4, h5, h6⟩ := h
  cases a with
  | zero => rw [h4] at ha; cases ha
  | succ i =>
    by_cases hi : i + 1 < hp.1
    · have h7 := (h3 i hi).1
      rw [ha] at h7
      exact ⟨i, rfl, hi, rfl, h7⟩
    · rw [h5 _ (Nat.not_lt.mp hi)] at ha
      cases ha
theorem mHr.arr {G : mG} {H : Heap} {hp : mHp} (h : mHr G H hp) {a : Nat} {ty : FieldType} {x : vp_A} (ha : hp.2.2 a = .inl (ty, x)) (ht : ty ≠ .boolean) :
    ∃ i, a = i + 1 ∧ i + 1 < hp.1 ∧ mad (gb G) (gs G) a = gs G + i ∧ va_at (gD G) (gc G) (gs G + i, .inl (gA G ty, mca (gb G) (gs G) x)) H ∧ ty ∈ gt G := by
  obtain ⟨h1, h2, h3, h4, h5, h6⟩ := h
  cases a with
  | zero => rw [h4] at ha; cases ha; exact absurd rfl ht
  | succ i =>
    by_cases hi : i + 1 < hp.1
    · obtain ⟨h7, h8⟩ := h3 i hi
      rw [ha] at h7 h8
      exact ⟨i, rfl, hi, rfl, h7, h8⟩
    · rw [h5 _ (Nat.not_lt.mp hi)] at ha
      cases ha
      exact absurd rfl ht
theorem mHr.set {G : mG} {H H' : Heap} {hp : mHp} (h : mHr G H hp) {i : Nat} (hi : i + 1 < hp.1) {c' : mC} (hc : va_at (gD G) (gc G) (gs G + i, mce (gb G) (gs G) (gA G) c') H') (ht : mtag (gt G) c')
    (z : H'.size = H.size) (oq : ∀ q : Nat, q ≠ gs G + i → H'[q]? = H[q]?) : mHr G H' (hp.1, hp.2.1, va_up hp.2.2 (i + 1) c') := by
  obtain ⟨h1, h2, h3, h4, h5, h6, h7⟩ := h
  refine ⟨h1, by rw [z]; exact h2, fun j hj => ?_, ?_, fun a ha => ?_, h6, ?_⟩
  · by_cases hji : j = i
    · subst hji
      show va_at _ _ (_, mce _ _ _ (va_up hp.2.2 (j + 1) c' (j + 1))) _ ∧ mtag _ (va_up hp.2.2 (j + 1) c' (j + 1))
      rw [va_up_self]
      exact ⟨hc, ht⟩
    · show va_at _ _ (_, mce _ _ _ (va_up hp.2.2 (i + 1) c' (j + 1))) _ ∧ mtag _ (va_up hp.2.2 (i + 1) c' (j + 1))
      rw [va_up_ne _ _ (show j + 1 ≠ i + 1 by omega)]
      exact ⟨(h3 j hj).1.kept (oq _ (show gs G + j ≠ gs G + i by omega)), (h3 j hj).2⟩
  · show va_up hp.2.2 (i + 1) c' 0 = _
    rw [va_up_ne _ _ (show 0 ≠ i + 1 by omega)]
    exact h4
  · show va_up hp.2.2 (i + 1) c' a = _
    have ha : hp.1 ≤ a := ha
    rw [va_up_ne _ _ (show a ≠ i + 1 by omega)]
    exact h5 a ha
  · intro q hq
    rw [oq _ (show q ≠ gs G + i by omega)]
    exact h7 q hq
theorem mHr.push {G : mG} {H H' : Heap} {hp : mHp} (h : mHr G H hp) {c' : mC} (hc : va_at (gD G) (gc G) (H.size, mce (gb G) (gs G) (gA G) c') H') (ht : mtag (gt G) c')
    (z : H'.size = H.size + 1) (oq : ∀ q : Nat, q < H.size → H'[q]? = H[q]?) (u : Nat) : mHr G H' (hp.1 + 1, u, va_up hp.2.2 hp.1 c') := by
  obtain ⟨h1, h2, h3, h4, h5, h6, h7⟩ := h
  refine ⟨Nat.le_add_left 1 _, by rw [z]; show H.size + 1 + 1 = gs G + (hp.1 + 1); omega, fun j hj => ?_, ?_, fun a ha => ?_, h6, ?_⟩
  · have hj : j + 1 < hp.1 + 1 := hj
    by_cases hji : j + 1 = hp.1
    · show va_at _ _ (_, mce _ _ _ (va_up hp.2.2 hp.1 c' (j + 1))) _ ∧ mtag _ (va_up hp.2.2 hp.1 c' (j + 1))
      rw [hji, va_up_self, show gs G + j = H.size by omega]
      exact ⟨hc, ht⟩
    · show va_at _ _ (_, mce _ _ _ (va_up hp.2.2 hp.1 c' (j + 1))) _ ∧ mtag _ (va_up hp.2.2 hp.1 c' (j + 1))
      rw [va_up_ne _ _ hji]
      have h8 := h3 j (by omega)
      exact ⟨h8.1.kept (oq _ (show gs G + j < H.size by omega)), h8.2⟩
  · show va_up hp.2.2 hp.1 c' 0 = _
    rw [va_up_ne _ _ (show 0 ≠ hp.1 by omega)]
    exact h4
  · show va_up hp.2.2 hp.1 c' a = _
    have ha : hp.1 + 1 ≤ a := ha
    rw [va_up_ne _ _ (show a ≠ hp.1 by omega)]
    exact h5 a (by omega)
  · intro q hq
    rw [oq _ (show q < H.size by omega)]
    exact h7 q hq
theorem mHr.top {G : mG} {H : Heap} {hp : mHp} (h : mHr G H hp) : mad (gb G) (gs G) hp.1 = H.size := by
  obtain ⟨h1, h2, -⟩ := h
  cases hn : hp.1 with
  | zero => omega
  | succ k =>
    show gs G + k = H.size
    omega
/-- a static of Throwable that lies in the heap of the start and holds a reference or null -/
def mZ (G : mG) (U : State) (n d : String) : Prop := ∃ (c : ClassId) (k : Class) (i : Nat) (f : Field) (a : Nat) (cell : Cell) (v : Value), U.vm.findClass Bundle.tN = some c ∧ U.fieldFound? Bundle.tN n d = some (c, k, i, f) ∧ f.isStatic = true ∧ k.statics = some a ∧ (gh G)[a]? = some cell ∧ a < gs G ∧ cell.vm.isStatics = true ∧ cell.cls = c ∧ f.slot < cell.slots.size ∧ k.staticTypes[f.slot]? = some f.type ∧ cell.slots[f.slot]? = some v ∧ v.isRef = true
theorem mZ.moved {G : mG} {u U : State} {n d : String} (hvm : u.vm.Alike U.vm) (h : mZ G u n d) : mZ G U n d := by
  obtain ⟨c, k, i, f, a, cell, v, h1, h2, h3, h4, h5, h6, h7, h8, h9, h10, h11, h12⟩ := h
  obtain ⟨k', hi', he⟩ := State.fieldFound?_setVm hvm h2
  exact ⟨c, k', i, f, a, cell, v, by rw [hvm.findClass]; exact h1, hi', h3, by rw [he]; exact h4, h5, h6, h7, h8, h9, by rw [he]; exact h10, h11, h12⟩
theorem mZ.lays {G : mG} {U : State} {n d : String} (h : mZ G U n d) (hH : ∀ q : Nat, q < gs G → U.heap[q]? = (gh G)[q]?) (args : Array Value) : (Cond.laysStatic Bundle.tN n d).before args U = true := by
  obtain ⟨c, k, i, f, a, cell, v, h1, h2, h3, h4, h5, h6, h7, h8, h9, h10, h11, h12⟩ := h
  have h13 : U.heap[a]? = some cell := by rw [hH a h6]; exact h5
  simp [Cond.before, Cond.holds, Cond.value, h1, h2, h3, h4, h13, h7, h8, h9, h10]
theorem mZ.isRef {G : mG} {U : State} {n d : String} (h : mZ G U n d) (hH : ∀ q : Nat, q < gs G → U.heap[q]? = (gh G)[q]?) (args : Array Value) : (Cond.isRef (.static Bundle.tN n d)).before args U = true := by
  obtain ⟨c, k, i, f, a, cell, v, h1, h2, h3, h4, h5, h6, h7, h8, h9, h10, h11, h12⟩ := h
  have h13 : U.heap[a]? = some cell := by rw [hH a h6]; exact h5
  have he : (Term.static Bundle.tN n d).eval args U none [] U = some v := by
    simp [Term.eval, State.fieldNamed?, h2, h3, h4, h13, h7, h11]
  simp only [Cond.before, Cond.holds, Cond.value, he]
  cases v <;> simp_all [Value.isRef]
/-- what the tables of a state say: classes, array classes, the script -/
def mKs (G : mG) (s : State) : Prop := va_K (gD G) (gc G) [] s ∧ (∀ ty ∈ gt G, ArrOfT s (gA G ty) ty ∧ va_RA s (gA G ty) ty) ∧ (gh G)[gb G]? = some (gr G) ∧ s.isArrayOf (gr G) .int ∧ (gr G).vm ≠ .unknown ∧ (gr G).slots.size = gL G ∧ (∀ j : Nat, j < gL G → (gr G).slots[j]? = some (.int (gx G j))) ∧
  (∀ q ∈ gS G, ∃ tx a, vk_R q.1 q.2 tx a s) ∧ mZ G s "UNASSIGNED_STACK" Bundle.steD ∧ mZ G s "SUPPRESSED_SENTINEL" Bundle.listD ∧ ∀ q ∈ gN G, va_Nc q.1 q.2 s
theorem mKs.one {G : mG} {s : State} (h : mKs G s) {ty : FieldType} (ht : ty ∈ gt G) : va_K (gD G) (gc G) [(gA G ty, ty)] s :=
  ⟨h.1.1, fun k q hq => by
    have hz : k < 1 := (List.getElem?_eq_some_iff.mp hq).1
    rw [show k = 0 by omega] at hq
    cases hq
    exact h.2.1 ty ht⟩
theorem mKs.moved {G : mG} {u U : State} (hW : u.WarmedH U.vm) (h : mKs G u) : mKs G U := by
  obtain ⟨h1, h2, h3, h4, h5, h6, h7, h8, h9, h10, h11⟩ := h
  have hvm := hW.alike
  exact ⟨h1.moved hvm, fun ty ht => ⟨arrOfT_moved hvm (h2 ty ht).1, (h2 ty ht).2.moved hvm⟩, h3, State.isArrayOf_alike hvm h4, h5, h6, h7, fun q hq => by
    obtain ⟨tx, a, ha⟩ := h8 q hq
    exact ⟨tx, a, ha.warm hW⟩, h9.moved hvm, h10.moved hvm, fun q hq => (h11 q hq).moved hvm⟩
theorem va_P1 {D : va_G} {cl : List vw_C} {q : Nat × va_E} {H : Heap} (h : va_at D cl q H) : va_P D cl [q] H := fun k x hx => by
  have hz : k < 1 := (List.getElem?_eq_some_iff.mp hx).1
  rw [show k = 0 by omega] at hx
  cases hx
  exact h
theorem mIn_ok {j : Int32} {n : Nat} (h : mIn j n = true) : vp_in j n := by
  simp only [mIn, Bool.and_eq_true, Bool.not_eq_true', decide_eq_false_iff_not, decide_eq_true_eq] at h
  rintro (q | q)
  · exact h.1 q
  · omega
theorem mfit_ok {b sz : Nat} {v : Value} {ty : FieldType} (h : mfit v ty = true) : narrow ty (mcv b sz v) = mcv b sz v ∧ fits ty (mcv b sz v) = true := by
  cases ty with
  | int => cases v <;> simp [mfit] at h; exact ⟨rfl, rfl⟩
  | long => cases v <;> simp [mfit] at h; exact ⟨rfl, rfl⟩
  | boolean =>
    cases v <;> simp [mfit] at h
    rcases h with rfl | rfl
    · exact ⟨rfl, rfl⟩
    · exact ⟨rfl, rfl⟩
  | object C => cases v <;> simp [mfit] at h; exact ⟨rfl, rfl⟩
  | array t => cases v <;> simp [mfit] at h; exact ⟨rfl, rfl⟩
  | _ => simp [mfit] at h
def okF (P : mP) (cl : List vw_C) (on : Nat → String) (WT : List Cond) : Prop := ∀ o i ci k, mPf P o i = some (ci, k) → ∃ C T N, cl[ci]? = some (C, T, N) ∧ k < N ∧ (T k).1 = C ∧ (T k).2.2.2 = mPq P ci k ∧
  ((Cond.fieldLink (on o) i C (T k).2.1 (T k).2.2.1 ∈ WT ∧ (o = ci → on o = C)) ∨ (o ≠ ci ∧ ∃ host, Cond.fieldLinkNest (on o) i C (T k).2.1 (T k).2.2.1 host ∈ WT))
def okK (P : mP) (cl : List vw_C) (WT : List Cond) : Prop := ∀ ci C T N, cl[ci]? = some (C, T, N) → (∀ w ∈ u_ws C T N, w ∈ WT) ∧ (∀ k, k < N → parseFieldDescriptor (T k).2.2.1 = some (mPy P ci k)) ∧ (∀ a, a < N → ∀ b, b < N → a ≠ b → (T a).2.1 ≠ (T b).2.1) ∧ mPg P ci = C
section MR
variable {p : Program} {l : Launch} {e : Env} {R : Room} {s : State} {m : MethodId} {args : Array Value} {below : List Frame} {meth : Method} {c : Code} {H : Heap} {locs : List Loc} {cells slots : Nat} {Q : State → Prop}
variable {cc : ByteArray} {pc : Nat} {ls : Array Slot} {rest : List Value} {G : mG} {P : mP} {hp : mHp} {on : Nat → String} {WT : List Cond}
theorem mr_get (hexec : p.tables.exec = Jvm.exec) (hb : c.code = cc) (hw : ∀ w ∈ WT, w.before args s = true) (hF : okF P (gc G) on WT) (hO : okK P (gc G) WT) (hK : mKs G s) (hH : mHr G H hp) {o i ci k a : Nat} {fs : List Value} {v : Value} (hown : s.vm.findClass (on o) = some m.cls)
    (hf : mPf P o i = some (ci, k)) (ha : hp.2.2 a = .inr (ci, fs)) (hv : fs[k]? = some v) (hdg : decode cc pc = .ok (.getfield i, 3))
    (kk : W p l e R s m args below meth c H locs cells slots Q (F0 m (pc + 3) ls (gv G v :: rest))) : W p l e R s m args below meth c H locs cells slots Q (F0 m pc ls (.ref (mad (gb G) (gs G) a) :: rest)) := by
  obtain ⟨C, T, N, hc, hk, hT, -, hl⟩ := hF _ _ _ _ hf
  obtain ⟨hin, -⟩ := hO _ _ _ _ hc
  obtain ⟨j, rfl, hj, hja, hat⟩ := hH.obj ha
  rw [hja]
  have hv' : (fs.map (gv G))[k]? = some (gv G v) := by rw [List.getElem?_map, hv]; rfl
  rcases hl with ⟨hl, -⟩ | ⟨-, host, hl⟩
  · exact va_get (D := gD G) (ref := C) (C := C) (T := T) (N := N) hexec hb hw hin hown hK.1 (va_P1 hat) 0 rfl hc k hk (hw _ hl) (fun x hx => by rw [hT] at hx; exact hx) hv' hdg kk
  · exact va_getN (D := gD G) (ref := C) (C := C) (T := T) (N := N) hexec hb hw hin hown hK.1 (va_P1 hat) 0 rfl hc k hk (hw _ hl) (fun x hx => by rw [hT] at hx; exact hx) hv' hdg kk
theorem mr_put (hexec : p.tables.exec = Jvm.exec) (hb : c.code = cc) (hw : ∀ w ∈ WT, w.before args s = true) (hF : okF P (gc G) on WT) (hO : okK P (gc G) WT) (hK : mKs G s) (hH : mHr G H hp) {ini : Bool} (hini : ini = true → meth.name = "<init>") {o i ci k a : Nat} {fs : List Value} {v : Value} (hown : s.vm.findClass (on o) = some m.cls)
    (hf : mPf P o i = some (ci, k)) (ha : hp.2.2 a = .inr (ci, fs)) (hlen : k < fs.length) (hfit : mfit v (mPy P ci k) = true) (hfin : mPq P ci k = false ∨ (ini = true ∧ o = ci)) (hdg : decode cc pc = .ok (.putfield i, 3)) (hloc : ∀ q ∈ locs, gs G ≤ q.base)
    (kk : ∀ (H' : Heap) (locs' : List Loc), mHr G H' (hp.1, hp.2.1, va_up hp.2.2 a (.inr (ci, fs.set k v))) → (∀ q ∈ locs', gs G ≤ q.base) → W p l e R s m args below meth c H' locs' cells slots Q (F0 m (pc + 3) ls rest)) : W p l e R s m args below meth c H locs cells slots Q (F0 m pc ls (gv G v :: .ref (mad (gb G) (gs G) a) :: rest)) := by
  obtain ⟨C, T, N, hc, hk, hT, hfi, hl⟩ := hF _ _ _ _ hf
  obtain ⟨hin, hty, hnm, -⟩ := hO _ _ _ _ hc
  obtain ⟨j, rfl, hj, hja, hat⟩ := hH.obj ha
  rw [hja]
  obtain ⟨hn, hfits⟩ := mfit_ok (b := gb G) (sz := gs G) hfit
  have hd := hty k hk
  have hap := va_apart (D := gD G) (own := on o) hw hin (mPy P ci) hty hnm hK.1 hc
  obtain ⟨r, h1, cell, q1, q2, q3, q4⟩ := hat
  have hr : r = (C, T, N) := Option.some.inj (h1.symm.trans hc)
  subst hr
  obtain ⟨hS, hfc, kC, hkC, hkind⟩ := hK.1.1 ci _ hc
  obtain ⟨cf, kf, fi, f, hi, hsl⟩ := hS k hk
  have hi' : s.fieldFound? C (T k).2.1 (T k).2.2.1 = some (cf, kf, fi, f) := by rw [← hT]; exact hi
  have hst := (u_facts hfc hkC (u_lays hw hin hk) hi).1
  have hlay := hw _ (hin _ (u_in_lay hk))
  unfold u_lay at hlay
  have hlm : k < (fs.map (gv G)).length := by rw [List.length_map]; exact hlen
  have fin : ∀ (H' : Heap), H'[gs G + j]? = some (cell.setSlot f.slot (gv G v)) → H'.size = H.size → (∀ q, q ≠ gs G + j → H'[q]? = H[q]?) → W p l e R s m args below meth c H' (locs ++ [⟨gs G + j, f.slot⟩]) cells slots Q (F0 m (pc + 3) ls rest) := by
    intro H' e1 e2 e3
    rw [hsl] at e1
    refine kk H' _ (hH.set hj ⟨_, hc, t_OB.to (V := updV (vp_V (fs.map (gv G))) k (gv G v)) ⟨_, e1, q2, q3, t_set q4 hap hk _⟩ (fun j' _ => ?_)⟩ trivial e2 e3) ?_
    · rw [vp_updV_set hlm, List.map_set]
    · intro q hq
      rcases List.mem_append.mp hq with h | h
      · exact hloc q h
      · rw [List.mem_singleton.mp h]
        exact Nat.le_add_right _ _
  rcases hl with ⟨hl, hoc⟩ | ⟨hne, host, hl⟩
  · by_cases hq : mPq P ci k = false
    · rw [if_neg (by rw [hfi, hq]; decide)] at hlay
      have h6 := u_store hfc hkC hkind hlay hi hd hn hfits
      exact W.putK hexec hb (f := f) ⟨hown, hw _ hl, ⟨_, _, _, hi'⟩, hst⟩ (by rw [q2]; exact h6) q1 q3 (by rw [hsl]; exact k2_hasslot (q4 k hk)) rfl rfl hdg fin
    · obtain ⟨hin1, hoc1⟩ := hfin.resolve_left hq
      have hqt : mPq P ci k = true := by simpa using hq
      rw [if_pos (by rw [hfi, hqt])] at hlay
      have hoC := hoc hoc1
      have hcf : m.cls = cf := by
        obtain ⟨_, _, c', _, _, _, -, -, hf', -, -, -, hown2, -⟩ := Cond.laysFinal_spec hlay
        have e1 : c' = cf := by have := hi.symm.trans hf'; simp at this; exact this.1.symm
        rw [hT, ← hoC] at hown2
        rw [← e1]; exact Option.some.inj (hown.symm.trans hown2)
      have h6 := u_fits hfc hkC hkind (Or.inr hlay) hi hd hn hfits
      exact W.putFinK hexec hb hown (hw _ hl) hi' hst hcf (hini hin1) (by rw [q2]; exact h6) q1 q3 (by rw [hsl]; exact k2_hasslot (q4 k hk)) rfl rfl hdg fin
  · have hq : mPq P ci k = false := by
      rcases hfin with h | ⟨-, h⟩
      · exact h
      · exact absurd h hne
    rw [if_neg (by rw [hfi, hq]; decide)] at hlay
    have h6 := u_store hfc hkC hkind hlay hi hd hn hfits
    exact va_WputK hexec hb (f := f) hown (hw _ hl) hi' hst (by rw [q2]; exact h6) q1 q3 (by rw [hsl]; exact k2_hasslot (q4 k hk)) rfl rfl hdg fin
theorem mr_iald (hexec : p.tables.exec = Jvm.exec) (hb : c.code = cc) (hK : mKs G s) (hH : mHr G H hp) {a n : Nat} {ty : FieldType} {f : Nat → Int32} {j : Int32} (ha : hp.2.2 a = .inl (ty, n, .inl f)) (ht : ty = .int ∨ a = 0) (hin : mIn j n = true) (hdg : decode cc pc = .ok (.iaload, 1))
    (kk : W p l e R s m args below meth c H locs cells slots Q (F0 m (pc + 1) ls (.int (f j.toNatClampNeg) :: rest))) : W p l e R s m args below meth c H locs cells slots Q (F0 m pc ls (.int j :: .ref (mad (gb G) (gs G) a) :: rest)) := by
  have hin := mIn_ok hin
  by_cases h0 : a = 0
  · subst h0
    have e0 := hH.2.2.2.1.symm.trans ha
    cases e0
    obtain ⟨-, -, g0, g1, g2, g3, g4, -⟩ := hK
    have hlt : j.toNatClampNeg < gL G := Nat.not_le.mp fun q => hin (Or.inr q)
    exact W.iald (v := .int (gx G j.toNatClampNeg)) hexec hb ((hH.2.2.2.2.2.2 _ hH.2.2.2.2.2.1).trans g0) g1 g2 (by rw [g3]; exact hin) (g4 _ hlt) rfl rfl hdg kk
  · have ht := ht.resolve_right h0
    subst ht
    obtain ⟨i, rfl, hi, hia, hat, htl⟩ := hH.arr ha (fun h => by cases h)
    rw [hia]
    exact va_iald (D := gD G) hexec hb (hK.one htl) (va_P1 hat) 0 0 rfl rfl hin hdg kk
theorem mr_lald (hexec : p.tables.exec = Jvm.exec) (hb : c.code = cc) (hK : mKs G s) (hH : mHr G H hp) {a n : Nat} {f : Nat → Int64} {j : Int32} (ha : hp.2.2 a = .inl (.long, n, .inr (.inl f))) (hin : mIn j n = true) (hdg : decode cc pc = .ok (.laload, 1))
    (kk : W p l e R s m args below meth c H locs cells slots Q (F0 m (pc + 1) ls (.long (f j.toNatClampNeg) :: rest))) : W p l e R s m args below meth c H locs cells slots Q (F0 m pc ls (.int j :: .ref (mad (gb G) (gs G) a) :: rest)) := by
  have hin := mIn_ok hin
  obtain ⟨i, rfl, hi, hia, hat, htl⟩ := hH.arr ha (fun h => by cases h)
  rw [hia]
  exact va_lald (D := gD G) hexec hb (hK.one htl) (va_P1 hat) 0 0 rfl rfl hin hdg kk
theorem mr_aald (hexec : p.tables.exec = Jvm.exec) (hb : c.code = cc) (hK : mKs G s) (hH : mHr G H hp) {a n v : Nat} {C : String} {f : Nat → Option Nat} {j : Int32} (ha : hp.2.2 a = .inl (.object C, n, .inr (.inr (.inr (.inr f))))) (hin : mIn j n = true) (hv : f j.toNatClampNeg = some v) (hdg : decode cc pc = .ok (.aaload, 1))
    (kk : W p l e R s m args below meth c H locs cells slots Q (F0 m (pc + 1) ls (.ref (mad (gb G) (gs G) v) :: rest))) : W p l e R s m args below meth c H locs cells slots Q (F0 m pc ls (.int j :: .ref (mad (gb G) (gs G) a) :: rest)) := by
  have hin := mIn_ok hin
  obtain ⟨i, rfl, hi, hia, hat, htl⟩ := hH.arr ha (fun h => by cases h)
  rw [hia]
  refine va_aldq (D := gD G) (C := C) (f := fun k => (f k).map (mad (gb G) (gs G))) hexec hb (hK.one htl) (va_P1 hat) 0 0 rfl rfl hin hdg ?_
  rw [hv]
  exact kk
theorem mr_alen (hexec : p.tables.exec = Jvm.exec) (hb : c.code = cc) (hK : mKs G s) (hH : mHr G H hp) {a : Nat} {ty : FieldType} {x : vp_A} (ha : hp.2.2 a = .inl (ty, x)) (ht : ty ≠ .boolean ∨ a = 0) (hdg : decode cc pc = .ok (.arraylength, 1))
    (kk : W p l e R s m args below meth c H locs cells slots Q (F0 m (pc + 1) ls (.int (Int32.ofNat x.1) :: rest))) : W p l e R s m args below meth c H locs cells slots Q (F0 m pc ls (.ref (mad (gb G) (gs G) a) :: rest)) := by
  by_cases h0 : a = 0
  · subst h0
    have e0 := hH.2.2.2.1.symm.trans ha
    cases e0
    obtain ⟨-, -, g0, g1, g2, g3, g4, -⟩ := hK
    exact W.alen (n := Int32.ofNat (gL G)) hexec hb ((hH.2.2.2.2.2.2 _ hH.2.2.2.2.2.1).trans g0) g1 (by rw [g3] <;> rfl) rfl rfl hdg kk
  · have ht := ht.resolve_right h0
    obtain ⟨i, rfl, hi, hia, hat, htl⟩ := hH.arr ha ht
    rw [hia]
    exact va_alen (D := gD G) (x := mca (gb G) (gs G) x) hexec hb (hK.one htl) (va_P1 hat) 0 0 rfl rfl rfl hdg kk
theorem mloc_add {sz : Nat} {locs : List Loc} {j k : Nat} (h : ∀ q ∈ locs, sz ≤ q.base) : ∀ q ∈ locs ++ [(⟨sz + j, k⟩ : Loc)], sz ≤ q.base := by
  intro q hq
  rcases List.mem_append.mp hq with h1 | h1
  · exact h q h1
  · rw [List.mem_singleton.mp h1]
    exact Nat.le_add_right _ _
theorem mr_iast (hexec : p.tables.exec = Jvm.exec) (hb : c.code = cc) (hK : mKs G s) (hH : mHr G H hp) {a n : Nat} {f : Nat → Int32} {j x : Int32} (ha : hp.2.2 a = .inl (.int, n, .inl f)) (hin : mIn j n = true) (hdg : decode cc pc = .ok (.iastore, 1)) (hloc : ∀ q ∈ locs, gs G ≤ q.base)
    (kk : ∀ (H' : Heap) (locs' : List Loc), mHr G H' (hp.1, hp.2.1, va_up hp.2.2 a (.inl (.int, n, .inl (upd f j.toNatClampNeg x)))) → (∀ q ∈ locs', gs G ≤ q.base) → W p l e R s m args below meth c H' locs' cells slots Q (F0 m (pc + 1) ls rest)) : W p l e R s m args below meth c H locs cells slots Q (F0 m pc ls (.int x :: .int j :: .ref (mad (gb G) (gs G) a) :: rest)) := by
  have hin := mIn_ok hin
  obtain ⟨i, rfl, hi, hia, hat, htl⟩ := hH.arr ha (fun h => by cases h)
  rw [hia]
  refine W.iast hexec hb hat ((hK.2.1 _ htl).1 n (fun j => .int (f j))) (fun q => by cases q) (by show ¬ (j < 0 ∨ (arrV _ _ _).slots.size ≤ _); rw [arrV_size]; exact hin) rfl rfl hdg fun H1 e1 z oq => ?_
  refine kk H1 _ (hH.set hi ?_ htl z oq) (mloc_add hloc)
  show H1[gs G + i]? = some (vp_cell _ _)
  rw [e1]
  show some ((vp_cell _ _).setSlot _ _) = _
  rw [show mca (gb G) (gs G) (n, Sum.inl f) = (n, .inl f) from rfl, show mca (gb G) (gs G) (n, Sum.inl (upd f j.toNatClampNeg x)) = (n, .inl (upd f j.toNatClampNeg x)) from rfl, vp_cell_i, vp_cell_i, arrV_store]
  congr 2
  funext q
  by_cases hq : q = j.toNatClampNeg
  · subst hq
    simp [updV, upd]
  · simp [updV, upd, hq]
theorem mr_last (hexec : p.tables.exec = Jvm.exec) (hb : c.code = cc) (hK : mKs G s) (hH : mHr G H hp) {a n : Nat} {f : Nat → Int64} {j : Int32} {x : Int64} (ha : hp.2.2 a = .inl (.long, n, .inr (.inl f))) (hin : mIn j n = true) (hdg : decode cc pc = .ok (.lastore, 1)) (hloc : ∀ q ∈ locs, gs G ≤ q.base)
    (kk : ∀ (H' : Heap) (locs' : List Loc), mHr G H' (hp.1, hp.2.1, va_up hp.2.2 a (.inl (.long, n, .inr (.inl (vp_updL f j.toNatClampNeg x))))) → (∀ q ∈ locs', gs G ≤ q.base) → W p l e R s m args below meth c H' locs' cells slots Q (F0 m (pc + 1) ls rest)) : W p l e R s m args below meth c H locs cells slots Q (F0 m pc ls (.long x :: .int j :: .ref (mad (gb G) (gs G) a) :: rest)) := by
  have hin := mIn_ok hin
  obtain ⟨i, rfl, hi, hia, hat, htl⟩ := hH.arr ha (fun h => by cases h)
  rw [hia]
  refine W.last hexec hb hat ((hK.2.1 _ htl).1 n (fun j => .long (f j))) (fun q => by cases q) (by show ¬ (j < 0 ∨ (arrV _ _ _).slots.size ≤ _); rw [arrV_size]; exact hin) rfl rfl hdg fun H1 e1 z oq => ?_
  refine kk H1 _ (hH.set hi ?_ htl z oq) (mloc_add hloc)
  show H1[gs G + i]? = some (vp_cell _ _)
  rw [e1]
  show some ((vp_cell _ _).setSlot _ _) = _
  rw [show mca (gb G) (gs G) (n, Sum.inr (Sum.inl f)) = (n, .inr (.inl f)) from rfl, show mca (gb G) (gs G) (n, Sum.inr (Sum.inl (vp_updL f j.toNatClampNeg x))) = (n, .inr (.inl (vp_updL f j.toNatClampNeg x))) from rfl, vp_cell_l, vp_cell_l, arrV_store]
  congr 2
  funext q
  by_cases hq : q = j.toNatClampNeg
  · subst hq
    simp [updV, vp_updL]
  · simp [updV, vp_updL, hq]
theorem mr_aast (hexec : p.tables.exec = Jvm.exec) (hb : c.code = cc) (hO : okK P (gc G) WT) (hK : mKs G s) (hH : mHr G H hp) {a n v ci : Nat} {vs : List Value} {f : Nat → Option Nat} {j : Int32} (ha : hp.2.2 a = .inl (.object (mPg P ci), n, .inr (.inr (.inr (.inr f))))) (hv : hp.2.2 v = .inr (ci, vs)) (hin : mIn j n = true) (hdg : decode cc pc = .ok (.aastore, 1)) (hloc : ∀ q ∈ locs, gs G ≤ q.base)
    (kk : ∀ (H' : Heap) (locs' : List Loc), mHr G H' (hp.1, hp.2.1, va_up hp.2.2 a (.inl (.object (mPg P ci), n, .inr (.inr (.inr (.inr (va_up f j.toNatClampNeg (some v)))))))) → (∀ q ∈ locs', gs G ≤ q.base) → W p l e R s m args below meth c H' locs' cells slots Q (F0 m (pc + 1) ls rest)) : W p l e R s m args below meth c H locs cells slots Q (F0 m pc ls (.ref (mad (gb G) (gs G) v) :: .int j :: .ref (mad (gb G) (gs G) a) :: rest)) := by
  have hin := mIn_ok hin
  have hlt : j.toNatClampNeg < n := Nat.not_le.mp fun q => hin (Or.inr q)
  have h0 : ¬ j < 0 := fun q => hin (Or.inl q)
  obtain ⟨i, rfl, hi, hia, hat, htl⟩ := hH.arr ha (fun h => by cases h)
  obtain ⟨iv, rfl, hiv, hiva, r', hr', cellV, g1, g2, g3, -⟩ := hH.obj hv
  rw [hia, hiva]
  have hcl := hO ci r'.1 r'.2.1 r'.2.2 hr'
  have hcls := (hK.1.1 ci r' hr').2
  obtain ⟨kA, comp, k1, k2, k3, -⟩ := (hK.2.1 _ htl).2
  rw [hcl.2.2.2] at k3
  have hcomp : comp = (gD G).1 ci := Option.some.inj (k3.symm.trans hcls.1)
  subst hcomp
  obtain ⟨kC, hkC, -⟩ := hcls.2
  refine W.aast hexec hb hat (fun q h => by cases h) (fun h => by cases h) k1 k2 rfl hkC ⟨h0, by show _ < (arrV _ _ _).slots.size; rw [arrV_size]; exact hlt⟩ g1 (fun q h => by rw [g3] at h; cases h) (by rw [g2]; exact hkC) (by rw [g2]; exact va_assign hcls) rfl rfl hdg fun H1 e1 z oq => ?_
  refine kk H1 _ (hH.set hi ?_ htl z oq) (mloc_add hloc)
  show H1[gs G + i]? = some (vp_cell _ _)
  rw [e1]
  show some ((vp_cell _ _).setSlot _ _) = _
  rw [show mca (gb G) (gs G) (n, Sum.inr (Sum.inr (Sum.inr (Sum.inr f)))) = (n, .inr (.inr (.inr (.inr fun k => (f k).map (mad (gb G) (gs G)))))) from rfl, show mca (gb G) (gs G) (n, Sum.inr (Sum.inr (Sum.inr (Sum.inr (va_up f j.toNatClampNeg (some (iv + 1))))))) = (n, .inr (.inr (.inr (.inr fun k => (va_up f j.toNatClampNeg (some (iv + 1)) k).map (mad (gb G) (gs G)))))) from rfl, vp_cell_q, vp_cell_q, arrV_store]
  congr 2
  funext q
  by_cases hq : q = j.toNatClampNeg
  · subst hq
    simp [updV, va_up, va_rf, mad]
  · simp [updV, va_up, hq]
theorem mr_newa (hexec : p.tables.exec = Jvm.exec) (hb : c.code = cc) {t : ArrayType} (harr : (Cond.arrayClass (newarray.typeOf t)).before args s = true) (hK : mKs G s) (hH : mHr G H hp) {n : Int32} {ty : FieldType} (hty : newarray.typeOf t = ty) (htl : ty ∈ gt G) (hra : va_RA s (gA G ty) ty → s.vm.findClass ("[" ++ ty.toString) = some (gA G ty)) {a0 : vp_A} (ha0 : ∀ cA, vp_cell cA (mca (gb G) (gs G) a0) = arrV cA n.toNatClampNeg (fun _ => defaultValue ty))
    (hn : ¬ n < 0) (hby : n.toNatClampNeg * componentBytes ty ≤ 536870912) (hcells : cells + 1 ≤ R.cells) (hslots : slots + n.toNatClampNeg ≤ R.slots) (hdg : decode cc pc = .ok (.newarray t, 2))
    (kk : ∀ H' : Heap, mHr G H' (hp.1 + 1, hp.2.1 + n.toNatClampNeg, va_up hp.2.2 hp.1 (.inl (ty, a0))) → W p l e R s m args below meth c H' locs (cells + 1) (slots + n.toNatClampNeg) Q (F0 m (pc + 2) ls (.ref (mad (gb G) (gs G) hp.1) :: rest))) : W p l e R s m args below meth c H locs cells slots Q (F0 m pc ls (.int n :: rest)) := by
  subst hty
  refine va_newaK hexec hb harr rfl hdg rfl hn rfl hby hcells hslots rfl fun H' cA e1 z oq hA hfc => ?_
  have hcA : cA = gA G (newarray.typeOf t) := Option.some.inj (hfc.symm.trans (hra (hK.2.1 _ htl).2))
  have h1 := kk H' (hH.push (c' := .inl (newarray.typeOf t, a0)) (by show H'[H.size]? = some (vp_cell _ _); rw [ha0, e1, hcA]) htl z oq _)
  rw [hH.top] at h1
  exact h1
theorem mr_anew (hexec : p.tables.exec = Jvm.exec) (hb : c.code = cc) {own C : String} {i : Nat} (hown : s.vm.findClass own = some m.cls) (hcl : (Cond.classLink own i C).before args s = true) (hov : (Cond.arrayOver (.object C)).before args s = true) (hK : mKs G s) (hH : mHr G H hp) {n : Int32} (htl : .object C ∈ gt G)
    (hn : ¬ n < 0) (hby : n.toNatClampNeg * 4 ≤ 536870912) (hcells : cells + 1 ≤ R.cells) (hslots : slots + n.toNatClampNeg ≤ R.slots) (hdg : decode cc pc = .ok (.anewarray i, 3))
    (kk : ∀ H' : Heap, mHr G H' (hp.1 + 1, hp.2.1 + n.toNatClampNeg, va_up hp.2.2 hp.1 (.inl (.object C, n.toNatClampNeg, .inr (.inr (.inr (.inr fun _ => none)))))) → W p l e R s m args below meth c H' locs (cells + 1) (slots + n.toNatClampNeg) Q (F0 m (pc + 3) ls (.ref (mad (gb G) (gs G) hp.1) :: rest))) : W p l e R s m args below meth c H locs cells slots Q (F0 m pc ls (.int n :: rest)) := by
  refine W.anew hexec hb hown hcl hov rfl hdg rfl hn hby hcells hslots fun cA kA comp f1 f2 f3 f4 => ?_
  obtain ⟨kA', comp', k1, k2, k3, k4⟩ := (hK.2.1 _ htl).2
  have hcA : cA = gA G (.object C) := Option.some.inj (f1.symm.trans k4)
  have h1 := kk (H.push ({ cls := cA, slots := Array.replicate n.toNatClampNeg .null, vm := .none } : Cell)) (hH.push (c' := .inl (.object C, n.toNatClampNeg, .inr (.inr (.inr (.inr fun _ => none))))) (by
    show (H.push _)[H.size]? = some (vp_cell _ _)
    rw [Array.getElem?_push_size, arrV_new, hcA]
    rfl) htl (by rw [Array.size_push]) (fun q hq => by rw [Array.getElem?_push, if_neg (Nat.ne_of_lt hq)]) _)
  rw [hH.top] at h1
  exact h1
theorem mr_new (hexec : p.tables.exec = Jvm.exec) (hb : c.code = cc) (hw : ∀ w ∈ WT, w.before args s = true) (hO : okK P (gc G) WT) {own C : String} {T : u_T} {i ci k : Nat} {fs : List Value} (hown : s.vm.findClass own = some m.cls) (hcl : (Cond.classLink own i C).before args s = true) (hins : (Cond.instantiable C k).before args s = true) (hini : (Cond.initialized C).before args s = true) (hK : mKs G s) (hH : mHr G H hp)
    (hc : (gc G)[ci]? = some (C, T, k)) (hfs : ∀ j, j < k → defaultValue (mPy P ci j) = vp_V fs j) (hfm : fs.map (gv G) = fs) (hcells : cells + 1 ≤ R.cells) (hslots : slots + k ≤ R.slots) (hdg : decode cc pc = .ok (.new i, 3))
    (kk : ∀ H' : Heap, mHr G H' (hp.1 + 1, hp.2.1 + k, va_up hp.2.2 hp.1 (.inr (ci, fs))) → W p l e R s m args below meth c H' locs (cells + 1) (slots + k) Q (F0 m (pc + 3) ls (.ref (mad (gb G) (gs G) hp.1) :: rest))) : W p l e R s m args below meth c H locs cells slots Q (F0 m pc ls rest) := by
  obtain ⟨hin, hty, -, -⟩ := hO _ _ _ _ hc
  have hKn := hK.1.1 ci _ hc
  refine W.newcK hexec hb hown hcl hins hini rfl hdg hcells hslots hKn.2.1 rfl fun H' kC hkC e1 z oq => ?_
  have h0 := u_born (mPy P ci) hw hin hKn hkC e1 hty
  have h1 := kk H' (hH.push (c' := .inr (ci, fs)) (by
    show va_at _ _ (_, .inr (ci, fs.map (gv G))) _
    rw [hfm]
    exact ⟨_, hc, h0.to hfs⟩) trivial z oq _)
  rw [hH.top] at h1
  exact h1
end MR
def okN (P : mP) (cl : List vw_C) (on : Nat → String) (WT : List Cond) : Prop := ∀ o i ci k fs, mPn P o i = some (ci, k, fs) → ∃ C T, cl[ci]? = some (C, T, k) ∧ Cond.classLink (on o) i C ∈ WT ∧ Cond.instantiable C k ∈ WT ∧ Cond.initialized C ∈ WT ∧ (∀ j, j < k → defaultValue (mPy P ci j) = vp_V fs j) ∧ ∀ b sz, fs.map (mcv b sz) = fs
def okA (P : mP) (tl : List FieldType) (on : Nat → String) (WT : List Cond) : Prop := (∀ o i C, mPa P o i = some C → Cond.classLink (on o) i C ∈ WT ∧ Cond.arrayOver (.object C) ∈ WT ∧ .object C ∈ tl) ∧ Cond.arrayClass .int ∈ WT ∧ Cond.arrayClass .long ∈ WT ∧ .int ∈ tl ∧ .long ∈ tl
def okC (P : mP) (on : Nat → String) (WT : List Cond) : Prop := (∀ o i v, mPk P o i = some (.int v) → Cond.constant (on o) i v ∈ WT) ∧ ∀ o i v, mPk P o i = some (.long v) → Cond.constantLong (on o) i v ∈ WT
theorem mII_inv {f : Int32 → Int32 → Int32} {pc : Nat} {ml : mLs} {st : List Value} {hp : mHp} {pc' : Nat} {ml' : mLs} {st' : List Value} {hp' : mHp} (h : mII f pc ml st hp = some (pc', ml', st', hp')) : ∃ (x y : Int32) (r : List Value), st = .int y :: .int x :: r ∧ pc' = pc ∧ ml' = ml ∧ st' = .int (f x y) :: r ∧ hp' = hp := by
  unfold mII at h
  split at h
  · simp only [Option.some.injEq, Prod.mk.injEq] at h
    obtain ⟨rfl, rfl, rfl, rfl⟩ := h
    exact ⟨_, _, _, rfl, rfl, rfl, rfl, rfl⟩
  · cases h
theorem mLL_inv {f : Int64 → Int64 → Int64} {pc : Nat} {ml : mLs} {st : List Value} {hp : mHp} {pc' : Nat} {ml' : mLs} {st' : List Value} {hp' : mHp} (h : mLL f pc ml st hp = some (pc', ml', st', hp')) : ∃ (x y : Int64) (r : List Value), st = .long y :: .long x :: r ∧ pc' = pc ∧ ml' = ml ∧ st' = .long (f x y) :: r ∧ hp' = hp := by
  unfold mLL at h
  split at h
  · simp only [Option.some.injEq, Prod.mk.injEq] at h
    obtain ⟨rfl, rfl, rfl, rfl⟩ := h
    exact ⟨_, _, _, rfl, rfl, rfl, rfl, rfl⟩
  · cases h
theorem mI1_inv {f : Int32 → Value} {pc : Nat} {ml : mLs} {st : List Value} {hp : mHp} {pc' : Nat} {ml' : mLs} {st' : List Value} {hp' : mHp} (h : mI1 f pc ml st hp = some (pc', ml', st', hp')) : ∃ (x : Int32) (r : List Value), st = .int x :: r ∧ pc' = pc ∧ ml' = ml ∧ st' = f x :: r ∧ hp' = hp := by
  unfold mI1 at h
  split at h
  · simp only [Option.some.injEq, Prod.mk.injEq] at h
    obtain ⟨rfl, rfl, rfl, rfl⟩ := h
    exact ⟨_, _, rfl, rfl, rfl, rfl, rfl⟩
  · cases h
theorem mL1_inv {f : Int64 → Value} {pc : Nat} {ml : mLs} {st : List Value} {hp : mHp} {pc' : Nat} {ml' : mLs} {st' : List Value} {hp' : mHp} (h : mL1 f pc ml st hp = some (pc', ml', st', hp')) : ∃ (x : Int64) (r : List Value), st = .long x :: r ∧ pc' = pc ∧ ml' = ml ∧ st' = f x :: r ∧ hp' = hp := by
  unfold mL1 at h
  split at h
  · simp only [Option.some.injEq, Prod.mk.injEq] at h
    obtain ⟨rfl, rfl, rfl, rfl⟩ := h
    exact ⟨_, _, rfl, rfl, rfl, rfl, rfl⟩
  · cases h
theorem mcmpL_inv  {pc : Nat} {ml : mLs} {st : List Value} {hp : mHp} {pc' : Nat} {ml' : mLs} {st' : List Value} {hp' : mHp} (h : mcmpL pc ml st hp = some (pc', ml', st', hp')) : ∃ (x y : Int64) (r : List Value), st = .long y :: .long x :: r ∧ pc' = pc ∧ ml' = ml ∧ st' = .int (lg_cmp x y) :: r ∧ hp' = hp := by
  unfold mcmpL at h
  split at h
  · simp only [Option.some.injEq, Prod.mk.injEq] at h
    obtain ⟨rfl, rfl, rfl, rfl⟩ := h
    exact ⟨_, _, _, rfl, rfl, rfl, rfl, rfl⟩
  · cases h
theorem mdiv_inv  {pc : Nat} {ml : mLs} {st : List Value} {hp : mHp} {pc' : Nat} {ml' : mLs} {st' : List Value} {hp' : mHp} (h : mdiv pc ml st hp = some (pc', ml', st', hp')) : ∃ (x y : Int32) (r : List Value), st = .int y :: .int x :: r ∧ ¬ y = 0 ∧ pc' = pc ∧ ml' = ml ∧ st' = .int (x / y) :: r ∧ hp' = hp := by
  unfold mdiv at h
  split at h
  · split at h
    · cases h
    · next hc =>
      simp only [Option.some.injEq, Prod.mk.injEq] at h
      obtain ⟨rfl, rfl, rfl, rfl⟩ := h
      exact ⟨_, _, _, rfl, hc, rfl, rfl, rfl, rfl⟩
  · cases h
theorem mdup_inv  {pc : Nat} {ml : mLs} {st : List Value} {hp : mHp} {pc' : Nat} {ml' : mLs} {st' : List Value} {hp' : mHp} (h : mdup pc ml st hp = some (pc', ml', st', hp')) : ∃ (v : Value) (r : List Value), st = v :: r ∧ v.category = 1 ∧ pc' = pc ∧ ml' = ml ∧ st' = v :: v :: r ∧ hp' = hp := by
  unfold mdup at h
  split at h
  · split at h
    · next hc =>
      simp only [Option.some.injEq, Prod.mk.injEq] at h
      obtain ⟨rfl, rfl, rfl, rfl⟩ := h
      exact ⟨_, _, rfl, hc, rfl, rfl, rfl, rfl⟩
    · cases h
  · cases h
theorem mpop_inv  {pc : Nat} {ml : mLs} {st : List Value} {hp : mHp} {pc' : Nat} {ml' : mLs} {st' : List Value} {hp' : mHp} (h : mpop pc ml st hp = some (pc', ml', st', hp')) : ∃ (v : Value) (r : List Value), st = v :: r ∧ v.category = 1 ∧ pc' = pc ∧ ml' = ml ∧ st' = r ∧ hp' = hp := by
  unfold mpop at h
  split at h
  · split at h
    · next hc =>
      simp only [Option.some.injEq, Prod.mk.injEq] at h
      obtain ⟨rfl, rfl, rfl, rfl⟩ := h
      exact ⟨_, _, rfl, hc, rfl, rfl, rfl, rfl⟩
    · cases h
  · cases h
theorem mdupx_inv  {pc : Nat} {ml : mLs} {st : List Value} {hp : mHp} {pc' : Nat} {ml' : mLs} {st' : List Value} {hp' : mHp} (h : mdupx pc ml st hp = some (pc', ml', st', hp')) : ∃ (v w : Value) (r : List Value), st = v :: w :: r ∧ (v.category = 1 ∧ w.category = 1) ∧ pc' = pc ∧ ml' = ml ∧ st' = v :: w :: v :: r ∧ hp' = hp := by
  unfold mdupx at h
  split at h
  · split at h
    · next hc =>
      simp only [Option.some.injEq, Prod.mk.injEq] at h
      obtain ⟨rfl, rfl, rfl, rfl⟩ := h
      exact ⟨_, _, _, rfl, hc, rfl, rfl, rfl, rfl⟩
    · cases h
  · cases h
theorem mdup2_inv  {pc : Nat} {ml : mLs} {st : List Value} {hp : mHp} {pc' : Nat} {ml' : mLs} {st' : List Value} {hp' : mHp} (h : mdup2 pc ml st hp = some (pc', ml', st', hp')) : ∃ (v w : Value) (r : List Value), st = v :: w :: r ∧ (v.category = 1 ∧ w.category = 1) ∧ pc' = pc ∧ ml' = ml ∧ st' = v :: w :: v :: w :: r ∧ hp' = hp := by
  unfold mdup2 at h
  split at h
  · split at h
    · next hc =>
      simp only [Option.some.injEq, Prod.mk.injEq] at h
      obtain ⟨rfl, rfl, rfl, rfl⟩ := h
      exact ⟨_, _, _, rfl, hc, rfl, rfl, rfl, rfl⟩
    · cases h
  · cases h
theorem mstI_inv {pc i : Nat} {ml : mLs} {st : List Value} {hp : mHp} {pc' : Nat} {ml' : mLs} {st' : List Value} {hp' : mHp} (h : mstI pc i ml st hp = some (pc', ml', st', hp')) : ∃ (x : Int32), st = .int x :: st' ∧ mset1 ml i (.int x) = some ml' ∧ pc' = pc ∧ hp' = hp := by
  unfold mstI at h
  split at h
  · split at h
    · next hm =>
      simp only [Option.some.injEq, Prod.mk.injEq] at h
      obtain ⟨rfl, rfl, rfl, rfl⟩ := h
      exact ⟨_, rfl, hm, rfl, rfl⟩
    · cases h
  · cases h
theorem mstA_inv {pc i : Nat} {ml : mLs} {st : List Value} {hp : mHp} {pc' : Nat} {ml' : mLs} {st' : List Value} {hp' : mHp} (h : mstA pc i ml st hp = some (pc', ml', st', hp')) : ∃ (x : Nat), st = .ref x :: st' ∧ mset1 ml i (.ref x) = some ml' ∧ pc' = pc ∧ hp' = hp := by
  unfold mstA at h
  split at h
  · split at h
    · next hm =>
      simp only [Option.some.injEq, Prod.mk.injEq] at h
      obtain ⟨rfl, rfl, rfl, rfl⟩ := h
      exact ⟨_, rfl, hm, rfl, rfl⟩
    · cases h
  · cases h
theorem mstL_inv {pc i : Nat} {ml : mLs} {st : List Value} {hp : mHp} {pc' : Nat} {ml' : mLs} {st' : List Value} {hp' : mHp} (h : mstL pc i ml st hp = some (pc', ml', st', hp')) : ∃ (x : Int64), st = .long x :: st' ∧ mset2 ml i (.long x) = some ml' ∧ pc' = pc ∧ hp' = hp := by
  unfold mstL at h
  split at h
  · split at h
    · next hm =>
      simp only [Option.some.injEq, Prod.mk.injEq] at h
      obtain ⟨rfl, rfl, rfl, rfl⟩ := h
      exact ⟨_, rfl, hm, rfl, rfl⟩
    · cases h
  · cases h
theorem minc_inv {pc i : Nat} {n : Int} {ml : mLs} {st : List Value} {hp : mHp} {pc' : Nat} {ml' : mLs} {st' : List Value} {hp' : mHp} (h : minc pc i n ml st hp = some (pc', ml', st', hp')) : ∃ (x : Int32), mget ml i = some (.int x) ∧ mset1 ml i (.int (x + Int32.ofInt n)) = some ml' ∧ pc' = pc ∧ st' = st ∧ hp' = hp := by
  unfold minc at h
  split at h
  · next hg =>
    split at h
    · next hm =>
      simp only [Option.some.injEq, Prod.mk.injEq] at h
      obtain ⟨rfl, rfl, rfl, rfl⟩ := h
      exact ⟨_, hg, hm, rfl, rfl, rfl⟩
    · cases h
  · cases h
theorem mjmp_inv {pc : Nat} {off : Int} {ml : mLs} {st : List Value} {hp : mHp} {pc' : Nat} {ml' : mLs} {st' : List Value} {hp' : mHp} (h : mjmp pc off ml st hp = some (pc', ml', st', hp')) : (pc : Int) + off = (pc' : Int) ∧ ml' = ml ∧ st' = st ∧ hp' = hp := by
  unfold mjmp mtgt at h
  split at h
  · next t ht =>
    simp only [Option.some.injEq, Prod.mk.injEq] at h
    obtain ⟨rfl, rfl, rfl, rfl⟩ := h
    split at ht
    · simp only [Option.some.injEq] at ht
      exact ⟨by omega, rfl, rfl, rfl⟩
    · cases ht
  · cases h
theorem mldI_inv {i : Nat} {ml : mLs} {k : Value → Option mF} {y : mF} (h : mldI ml i k = some y) : ∃ (x : Int32), ml[i]? = some (some (.int x)) ∧ k (.int x) = some y := by
  unfold mldI at h
  split at h
  · next hg => exact ⟨_, mget_eq hg, h⟩
  · cases h
theorem mldA_inv {i : Nat} {ml : mLs} {k : Value → Option mF} {y : mF} (h : mldA ml i k = some y) : ∃ (x : Nat), ml[i]? = some (some (.ref x)) ∧ k (.ref x) = some y := by
  unfold mldA at h
  split at h
  · next hg => exact ⟨_, mget_eq hg, h⟩
  · cases h
theorem mldL_inv {i : Nat} {ml : mLs} {k : Value → Option mF} {y : mF} (h : mldL ml i k = some y) : ∃ (x : Int64), ml[i]? = some (some (.long x)) ∧ k (.long x) = some y := by
  unfold mldL at h
  split at h
  · next hg => exact ⟨_, mget_eq hg, h⟩
  · cases h
section MV
variable {P : mP} {ini : Bool} {CM SM o i pc : Nat} {ml : mLs} {st : List Value} {hp : mHp} {pc' : Nat} {ml' : mLs} {st' : List Value} {hp' : mHp}
theorem mgetf_inv (h : mgetf P o i pc ml st hp = some (pc', ml', st', hp')) : ∃ a r ci k fs v, st = .ref a :: r ∧ mPf P o i = some (ci, k) ∧ hp.2.2 a = .inr (ci, fs) ∧ fs[k]? = some v ∧ pc' = pc ∧ ml' = ml ∧ st' = v :: r ∧ hp' = hp := by
  unfold mgetf at h
  split at h
  · next hf =>
    split at h
    · next ha =>
      split at h
      · next he =>
        subst he
        split at h
        · next hv =>
          simp only [Option.some.injEq, Prod.mk.injEq] at h
          obtain ⟨rfl, rfl, rfl, rfl⟩ := h
          exact ⟨_, _, _, _, _, _, rfl, hf, ha, hv, rfl, rfl, rfl, rfl⟩
        · cases h
      · cases h
    · cases h
  · cases h
theorem mputf_inv (h : mputf P ini o i pc ml st hp = some (pc', ml', st', hp')) : ∃ a v ci k fs, st = v :: .ref a :: st' ∧ mPf P o i = some (ci, k) ∧ hp.2.2 a = .inr (ci, fs) ∧ k < fs.length ∧ mfit v (mPy P ci k) = true ∧ (mPq P ci k = false ∨ (ini = true ∧ o = ci)) ∧ pc' = pc ∧ ml' = ml ∧ hp' = (hp.1, hp.2.1, va_up hp.2.2 a (.inr (ci, fs.set k v))) := by
  unfold mputf at h
  split at h
  · next hf =>
    split at h
    · next ha =>
      split at h
      · next he =>
        obtain ⟨rfl, h1, h2, h3⟩ := he
        simp only [Option.some.injEq, Prod.mk.injEq] at h
        obtain ⟨rfl, rfl, rfl, rfl, rfl, rfl⟩ := h
        exact ⟨_, _, _, _, _, rfl, hf, ha, h1, h2, h3, rfl, rfl, rfl⟩
      · cases h
    · cases h
  · cases h
theorem miald_inv (h : miald pc ml st hp = some (pc', ml', st', hp')) : ∃ a j r ty n f, st = .int j :: .ref a :: r ∧ hp.2.2 a = .inl (ty, n, .inl f) ∧ (ty = .int ∨ a = 0) ∧ mIn j n = true ∧ pc' = pc ∧ ml' = ml ∧ st' = .int (f j.toNatClampNeg) :: r ∧ hp' = hp := by
  unfold miald at h
  split at h
  · split at h
    · next ha =>
      split at h
      · next he =>
        simp only [Option.some.injEq, Prod.mk.injEq] at h
        obtain ⟨rfl, rfl, rfl, rfl⟩ := h
        exact ⟨_, _, _, _, _, _, rfl, ha, he.1, he.2, rfl, rfl, rfl, rfl⟩
      · cases h
    · cases h
  · cases h
theorem miast_inv (h : miast pc ml st hp = some (pc', ml', st', hp')) : ∃ a j x n f, st = .int x :: .int j :: .ref a :: st' ∧ hp.2.2 a = .inl (.int, n, .inl f) ∧ mIn j n = true ∧ pc' = pc ∧ ml' = ml ∧ hp' = (hp.1, hp.2.1, va_up hp.2.2 a (.inl (.int, n, .inl (upd f j.toNatClampNeg x)))) := by
  unfold miast at h
  split at h
  · split at h
    · next ha =>
      split at h
      · next he =>
        obtain ⟨rfl, h1⟩ := he
        simp only [Option.some.injEq, Prod.mk.injEq] at h
        obtain ⟨rfl, rfl, rfl, rfl, rfl, rfl⟩ := h
        exact ⟨_, _, _, _, _, rfl, ha, h1, rfl, rfl, rfl⟩
      · cases h
    · cases h
  · cases h
theorem mlald_inv (h : mlald pc ml st hp = some (pc', ml', st', hp')) : ∃ a j r n f, st = .int j :: .ref a :: r ∧ hp.2.2 a = .inl (.long, n, .inr (.inl f)) ∧ mIn j n = true ∧ pc' = pc ∧ ml' = ml ∧ st' = .long (f j.toNatClampNeg) :: r ∧ hp' = hp := by
  unfold mlald at h
  split at h
  · split at h
    · next ha =>
      split at h
      · next he =>
        obtain ⟨rfl, h1⟩ := he
        simp only [Option.some.injEq, Prod.mk.injEq] at h
        obtain ⟨rfl, rfl, rfl, rfl⟩ := h
        exact ⟨_, _, _, _, _, rfl, ha, h1, rfl, rfl, rfl, rfl⟩
      · cases h
    · cases h
  · cases h
theorem mlast_inv (h : mlast pc ml st hp = some (pc', ml', st', hp')) : ∃ a j x n f, st = .long x :: .int j :: .ref a :: st' ∧ hp.2.2 a = .inl (.long, n, .inr (.inl f)) ∧ mIn j n = true ∧ pc' = pc ∧ ml' = ml ∧ hp' = (hp.1, hp.2.1, va_up hp.2.2 a (.inl (.long, n, .inr (.inl (vp_updL f j.toNatClampNeg x))))) := by
  unfold mlast at h
  split at h
  · split at h
    · next ha =>
      split at h
      · next he =>
        obtain ⟨rfl, h1⟩ := he
        simp only [Option.some.injEq, Prod.mk.injEq] at h
        obtain ⟨rfl, rfl, rfl, rfl, rfl, rfl⟩ := h
        exact ⟨_, _, _, _, _, rfl, ha, h1, rfl, rfl, rfl⟩
      · cases h
    · cases h
  · cases h
theorem maald_inv (h : maald pc ml st hp = some (pc', ml', st', hp')) : ∃ a j r C n f v, st = .int j :: .ref a :: r ∧ hp.2.2 a = .inl (.object C, n, .inr (.inr (.inr (.inr f)))) ∧ mIn j n = true ∧ f j.toNatClampNeg = some v ∧ pc' = pc ∧ ml' = ml ∧ st' = .ref v :: r ∧ hp' = hp := by
  unfold maald at h
  split at h
  · split at h
    · next ha =>
      split at h
      · next he =>
        split at h
        · next hv =>
          simp only [Option.some.injEq, Prod.mk.injEq] at h
          obtain ⟨rfl, rfl, rfl, rfl⟩ := h
          exact ⟨_, _, _, _, _, _, _, rfl, ha, he, hv, rfl, rfl, rfl, rfl⟩
        · cases h
      · cases h
    · cases h
  · cases h
theorem maast_inv (h : maast P pc ml st hp = some (pc', ml', st', hp')) : ∃ a j v n f ci vs, st = .ref v :: .int j :: .ref a :: st' ∧ hp.2.2 a = .inl (.object (mPg P ci), n, .inr (.inr (.inr (.inr f)))) ∧ hp.2.2 v = .inr (ci, vs) ∧ mIn j n = true ∧ pc' = pc ∧ ml' = ml ∧ hp' = (hp.1, hp.2.1, va_up hp.2.2 a (.inl (.object (mPg P ci), n, .inr (.inr (.inr (.inr (va_up f j.toNatClampNeg (some v)))))))) := by
  unfold maast at h
  split at h
  · split at h
    · next ha hv =>
      split at h
      · next he =>
        obtain ⟨rfl, h1⟩ := he
        simp only [Option.some.injEq, Prod.mk.injEq] at h
        obtain ⟨rfl, rfl, rfl, rfl, rfl, rfl⟩ := h
        exact ⟨_, _, _, _, _, _, _, rfl, ha, hv, h1, rfl, rfl, rfl⟩
      · cases h
    · cases h
  · cases h
theorem malen_inv (h : malen pc ml st hp = some (pc', ml', st', hp')) : ∃ a r ty x, st = .ref a :: r ∧ hp.2.2 a = .inl (ty, x) ∧ (ty ≠ .boolean ∨ a = 0) ∧ pc' = pc ∧ ml' = ml ∧ st' = .int (Int32.ofNat x.1) :: r ∧ hp' = hp := by
  unfold malen at h
  split at h
  · split at h
    · next ha =>
      split at h
      · next he =>
        simp only [Option.some.injEq, Prod.mk.injEq] at h
        obtain ⟨rfl, rfl, rfl, rfl⟩ := h
        exact ⟨_, _, _, _, rfl, ha, he, rfl, rfl, rfl, rfl⟩
      · cases h
    · cases h
  · cases h
theorem mroom_ok {k : Nat} (h : mroom CM SM k hp = true) : hp.1 < CM ∧ hp.2.1 + k ≤ SM := by
  simpa [mroom] using h
theorem mnewa_inv {ty : FieldType} (h : mnewa CM SM ty pc ml st hp = some (pc', ml', st', hp')) : ∃ n r a0, st = .int n :: r ∧ ¬ n < 0 ∧ n.toNatClampNeg ≤ 1000000 ∧ hp.1 < CM ∧ hp.2.1 + n.toNatClampNeg ≤ SM ∧ ((ty = .int ∧ a0 = (n.toNatClampNeg, .inl fun _ => 0)) ∨ (ty = .long ∧ a0 = (n.toNatClampNeg, .inr (.inl fun _ => 0)))) ∧ pc' = pc ∧ ml' = ml ∧ st' = .ref hp.1 :: r ∧ hp' = (hp.1 + 1, hp.2.1 + n.toNatClampNeg, va_up hp.2.2 hp.1 (.inl (ty, a0))) := by
  unfold mnewa at h
  split at h
  · split at h
    · next he =>
      obtain ⟨h1, h2, h3⟩ := he
      obtain ⟨h3, h4⟩ := mroom_ok h3
      split at h
      · simp only [Option.some.injEq, Prod.mk.injEq] at h
        obtain ⟨rfl, rfl, rfl, rfl, rfl, rfl⟩ := h
        exact ⟨_, _, _, rfl, h1, h2, h3, h4, Or.inl ⟨rfl, rfl⟩, rfl, rfl, rfl, rfl⟩
      · simp only [Option.some.injEq, Prod.mk.injEq] at h
        obtain ⟨rfl, rfl, rfl, rfl, rfl, rfl⟩ := h
        exact ⟨_, _, _, rfl, h1, h2, h3, h4, Or.inr ⟨rfl, rfl⟩, rfl, rfl, rfl, rfl⟩
      · cases h
    · cases h
  · cases h
theorem manew_inv (h : manew P CM SM o i pc ml st hp = some (pc', ml', st', hp')) : ∃ n r C, st = .int n :: r ∧ mPa P o i = some C ∧ ¬ n < 0 ∧ n.toNatClampNeg ≤ 1000000 ∧ hp.1 < CM ∧ hp.2.1 + n.toNatClampNeg ≤ SM ∧ pc' = pc ∧ ml' = ml ∧ st' = .ref hp.1 :: r ∧ hp' = (hp.1 + 1, hp.2.1 + n.toNatClampNeg, va_up hp.2.2 hp.1 (.inl (.object C, n.toNatClampNeg, .inr (.inr (.inr (.inr fun _ => none)))))) := by
  unfold manew at h
  split at h
  · next hC =>
    split at h
    · next he =>
      obtain ⟨h1, h2, h3⟩ := he
      obtain ⟨h3, h4⟩ := mroom_ok h3
      simp only [Option.some.injEq, Prod.mk.injEq] at h
      obtain ⟨rfl, rfl, rfl, rfl, rfl, rfl⟩ := h
      exact ⟨_, _, _, rfl, hC, h1, h2, h3, h4, rfl, rfl, rfl, rfl⟩
    · cases h
  · cases h
theorem mnew_inv (h : mnew P CM SM o i pc ml st hp = some (pc', ml', st', hp')) : ∃ ci k fs, mPn P o i = some (ci, k, fs) ∧ hp.1 < CM ∧ hp.2.1 + k ≤ SM ∧ pc' = pc ∧ ml' = ml ∧ st' = .ref hp.1 :: st ∧ hp' = (hp.1 + 1, hp.2.1 + k, va_up hp.2.2 hp.1 (.inr (ci, fs))) := by
  unfold mnew at h
  split at h
  · next hC =>
    split at h
    · next he =>
      obtain ⟨h3, h4⟩ := mroom_ok he
      simp only [Option.some.injEq, Prod.mk.injEq] at h
      obtain ⟨rfl, rfl, rfl, rfl, rfl, rfl⟩ := h
      exact ⟨_, _, _, hC, h3, h4, rfl, rfl, rfl, rfl⟩
    · cases h
  · cases h
theorem mldc_inv (h : mldc P o i pc ml st hp = some (pc', ml', st', hp')) : ∃ v, mPk P o i = some (.int v) ∧ pc' = pc ∧ ml' = ml ∧ st' = .int v :: st ∧ hp' = hp := by
  unfold mldc at h
  split at h
  · next hC =>
    simp only [Option.some.injEq, Prod.mk.injEq] at h
    obtain ⟨rfl, rfl, rfl, rfl⟩ := h
    exact ⟨_, hC, rfl, rfl, rfl, rfl⟩
  · cases h
theorem mldc2_inv (h : mldc2 P o i pc ml st hp = some (pc', ml', st', hp')) : ∃ v, mPk P o i = some (.long v) ∧ pc' = pc ∧ ml' = ml ∧ st' = .long v :: st ∧ hp' = hp := by
  unfold mldc2 at h
  split at h
  · next hC =>
    simp only [Option.some.injEq, Prod.mk.injEq] at h
    obtain ⟨rfl, rfl, rfl, rfl⟩ := h
    exact ⟨_, hC, rfl, rfl, rfl, rfl⟩
  · cases h
end MV
theorem mtgt_ok {pc t : Nat} {off : Int} (h : mtgt pc off = some t) : (pc : Int) + off = (t : Int) := by
  unfold mtgt at h
  split at h
  · simp only [Option.some.injEq] at h
    omega
  · cases h
theorem mif_inv {cnd : ClassFile.Cond} {pc : Nat} {off : Int} {ml : mLs} {st : List Value} {hp : mHp} {pc' : Nat} {ml' : mLs} {st' : List Value} {hp' : mHp} (h : mif cnd pc off ml st hp = some (pc', ml', st', hp')) : ∃ (x : Int32) (t : Nat), st = .int x :: st' ∧ (pc : Int) + off = (t : Int) ∧ ml' = ml ∧ hp' = hp ∧ ((mcnd cnd x 0 = true ∧ pc' = t) ∨ (¬ mcnd cnd x 0 = true ∧ pc' = pc + 3)) := by
  unfold mif at h
  split at h
  · next ht =>
    split at h
    · next hc =>
      simp only [Option.some.injEq, Prod.mk.injEq] at h
      obtain ⟨rfl, rfl, rfl, rfl⟩ := h
      exact ⟨_, _, rfl, mtgt_ok ht, rfl, rfl, Or.inl ⟨hc, rfl⟩⟩
    · next hc =>
      simp only [Option.some.injEq, Prod.mk.injEq] at h
      obtain ⟨rfl, rfl, rfl, rfl⟩ := h
      exact ⟨_, _, rfl, mtgt_ok ht, rfl, rfl, Or.inr ⟨hc, rfl⟩⟩
  · cases h
theorem micmp_inv {cnd : ClassFile.Cond} {pc : Nat} {off : Int} {ml : mLs} {st : List Value} {hp : mHp} {pc' : Nat} {ml' : mLs} {st' : List Value} {hp' : mHp} (h : micmp cnd pc off ml st hp = some (pc', ml', st', hp')) : ∃ (x y : Int32) (t : Nat), st = .int y :: .int x :: st' ∧ (pc : Int) + off = (t : Int) ∧ ml' = ml ∧ hp' = hp ∧ ((mcnd cnd x y = true ∧ pc' = t) ∨ (¬ mcnd cnd x y = true ∧ pc' = pc + 3)) := by
  unfold micmp at h
  split at h
  · next ht =>
    split at h
    · next hc =>
      simp only [Option.some.injEq, Prod.mk.injEq] at h
      obtain ⟨rfl, rfl, rfl, rfl⟩ := h
      exact ⟨_, _, _, rfl, mtgt_ok ht, rfl, rfl, Or.inl ⟨hc, rfl⟩⟩
    · next hc =>
      simp only [Option.some.injEq, Prod.mk.injEq] at h
      obtain ⟨rfl, rfl, rfl, rfl⟩ := h
      exact ⟨_, _, _, rfl, mtgt_ok ht, rfl, rfl, Or.inr ⟨hc, rfl⟩⟩
  · cases h
theorem mtab_inv {d lo hi : Int} {offs : Array Int} {pc : Nat} {ml : mLs} {st : List Value} {hp : mHp} {pc' : Nat} {ml' : mLs} {st' : List Value} {hp' : mHp} (h : mtab d lo hi offs pc ml st hp = some (pc', ml', st', hp')) : ∃ (x : Int32), st = .int x :: st' ∧ ml' = ml ∧ hp' = hp ∧ (((x.toInt < lo ∨ hi < x.toInt) ∧ (pc : Int) + d = (pc' : Int)) ∨ (¬ x.toInt < lo ∧ ¬ hi < x.toInt ∧ ∃ off, offs[(x.toInt - lo).toNat]? = some off ∧ (pc : Int) + off = (pc' : Int))) := by
  unfold mtab at h
  split at h
  · split at h
    · next hc =>
      obtain ⟨h1, rfl, rfl, rfl⟩ := mjmp_inv h
      exact ⟨_, rfl, rfl, rfl, Or.inl ⟨hc, h1⟩⟩
    · next hc =>
      split at h
      · next ho =>
        obtain ⟨h1, rfl, rfl, rfl⟩ := mjmp_inv h
        exact ⟨_, rfl, rfl, rfl, Or.inr ⟨fun q => hc (Or.inl q), fun q => hc (Or.inr q), _, ho, h1⟩⟩
      · cases h
  · cases h
