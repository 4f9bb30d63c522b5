/-! The claim out of a run of the small machine. -/
def tbCM : Nat := 601025
def tbSM : Nat := 7293034
/-- where the run begins: the script alone -/
def mhp0 (L : Nat) (xs : Nat → Int32) : mHp := (1, 0, fun a => match a with
  | 0 => .inl (.boolean, L, .inl xs)
  | _ => mjunk)
def ckI (ci : Nat) : Bool := decide (Cond.instantiable (tbCi ci).1 (if (tbCi ci).2.length = 0 then 6 else (tbCi ci).2.length) ∈ lw_tbl)
set_option maxRecDepth 100000 in
theorem ckI_all : (List.range 13).all ckI = true := by decide +kernel
theorem WTs_lw {w : Cond} (h : w ∈ WTs) : w ∈ lw_tbl := (List.mem_filter.mp h).1
theorem tb_Kn {args : Array Value} {s : State} (hts : ∀ w ∈ lw_tbl, w.before args s = true) (ci : Nat) (q : vw_C) (hq : tbCv[ci]? = some q) : ∃ (cC : ClassId) (iS : Nat → Nat), u_Kn s q.1 q.2.1 q.2.2 cC iS := by
  cases hm : tbCl[ci]? with
  | none =>
    unfold tbCv at hq
    rw [List.getElem?_map, hm] at hq
    cases hq
  | some c =>
    obtain ⟨h1, h2⟩ := tbCv_at hm
    cases h1.symm.trans hq
    have hlt : ci < 13 := by rw [← tbCl_len]; exact (List.getElem?_eq_some_iff.mp hm).1
    have hc := of_decide_eq_true (List.all_eq_true.mp ckI_all ci (List.mem_range.mpr hlt))
    rw [h2] at hc
    exact u_known (n := if c.2.length = 0 then 6 else c.2.length) hts (fun w hw => WTs_lw ((tb_okK ci _ _ _ h1).1 w hw)) (hts _ hc)
set_option maxRecDepth 100000 in
theorem ckSr_all : (tbSr.all (fun e => hasW e.2.2.2 (.stringRef e.1 e.2.1 e.2.2.1)) && tbSt.all (fun q => tbSr.any (fun e => decide (e.1 = q.1 ∧ e.2.1 = q.2)))) = true := by decide +kernel
theorem hasW_in {i : Nat} {w : Cond} (h : hasW i w = true) : w ∈ lw_tbl := by
  unfold hasW at h
  split at h
  · next hw =>
    cases of_decide_eq_true h
    exact List.mem_of_getElem? hw
  · cases h
theorem tb_str {args : Array Value} {s : State} (hts : ∀ w ∈ lw_tbl, w.before args s = true) : ∀ q ∈ tbSt, ∃ tx a, vk_R q.1 q.2 tx a s := by
  intro q hq
  have h0 := ckSr_all
  rw [Bool.and_eq_true] at h0
  obtain ⟨e, he, h1⟩ := List.any_eq_true.mp (List.all_eq_true.mp h0.2 q hq)
  obtain ⟨h2, h3⟩ := of_decide_eq_true h1
  have h4 := hts _ (hasW_in (List.all_eq_true.mp h0.1 e he))
  have hcur : ∃ cur, s.vm.findClass e.1 = some cur := by
    have h5 := h4
    simp only [Cond.before, Cond.holds, Cond.value] at h5
    cases hc : s.vm.findClass e.1 with
    | none => simp [hc] at h5
    | some cur => exact ⟨cur, rfl⟩
  obtain ⟨cur, hcur⟩ := hcur
  obtain ⟨k, cf, i, a, -, -, -, -, -, hev⟩ := Cond.stringRef_spec hcur h4
  rw [← h2, ← h3]
  exact ⟨e.2.2.1, a, vk_R.of h4 hev⟩
set_option maxRecDepth 100000 in
theorem ckNc_all : ∀ q ∈ tbNc, Cond.not (.castable q.1 q.2) ∈ flatC (Jvm.Cond.and given_1 narrow_1) := by decide +kernel
theorem tb_mZ {G : mG} {args : Array Value} {s : State} {n d : String} (hgh : gh G = s.heap) (hgs : gs G = s.heap.size) (h1 : (Cond.laysStatic Bundle.tN n d).before args s = true) (h2 : (Cond.isRef (.static Bundle.tN n d)).before args s = true) : mZ G s n d := by
  obtain ⟨c, k, i, f, a, cell, q1, q2, q3, q4, q5, q6, q7, q8, q9⟩ := Cond.laysStatic_spec h1
  have he : (Term.static Bundle.tN n d).eval args s none [] s = cell.slots[f.slot]? := by
    simp [Term.eval, State.fieldNamed?, q2, q3, q4, q5, q6]
  have hv : ∃ v, cell.slots[f.slot]? = some v ∧ v.isRef = true := by
    simp only [Cond.before, Cond.holds, Cond.value, he] at h2
    cases hs : cell.slots[f.slot]? with
    | none => simp [hs] at h2
    | some v =>
      rw [hs] at h2
      refine ⟨v, rfl, ?_⟩
      cases v <;> simp_all [Value.isRef]
  obtain ⟨v, v1, v2⟩ := hv
  exact ⟨c, k, i, f, a, cell, v, q1, q2, q3, q4, by rw [hgh]; exact q5, by rw [hgs]; exact (Array.getElem?_eq_some_iff.mp q5).1, q6, q7, q8, q9, v1, v2⟩
set_option maxRecDepth 100000 in
theorem ckZ_all : (Cond.laysStatic Bundle.tN "UNASSIGNED_STACK" Bundle.steD ∈ lw_tbl ∧ Cond.laysStatic Bundle.tN "SUPPRESSED_SENTINEL" Bundle.listD ∈ lw_tbl) ∧ Cond.isRef (.static Bundle.tN "UNASSIGNED_STACK" Bundle.steD) ∈ flatC (Jvm.Cond.and given_1 narrow_1) ∧ Cond.isRef (.static Bundle.tN "SUPPRESSED_SENTINEL" Bundle.listD) ∈ flatC (Jvm.Cond.and given_1 narrow_1) := by decide +kernel
theorem tb_arr {args : Array Value} {s : State} {ty : FieldType} (h : (Cond.arrayClass ty).before args s = true) : ∃ cA, ArrOfT s cA ty ∧ s.vm.findClass ("[" ++ ty.toString) = some cA := by
  obtain ⟨c, k, comp, h1, h2, h3⟩ := Cond.arrayClass_spec h
  exact ⟨c, fun N z => ⟨(fun k h => by cases h), k, h2, comp, h3⟩, h1⟩
theorem tb_arrO {args : Array Value} {s : State} {C : String} (h : (Cond.arrayOver (.object C)).before args s = true) : ∃ cA, ArrOfT s cA (.object C) ∧ va_RA s cA (.object C) := by
  obtain ⟨comp, c, k, h1, h2, h3, h4, h5⟩ := Cond.arrayOver_spec h
  exact ⟨c, fun N z => ⟨(fun k h => by cases h), k, h3, comp, h4⟩, k, comp, h3, h4, h1, h5⟩
/-- what holds at the law's entry, with its handlers and the launch's flags -/
def mw_At (p : Program) (l : Launch) (s : State) (m : MethodId) (meth : Method) (c : Code) (b L : Nat) (xs : Nat → Int32) : Prop :=
  p.tables.exec = Jvm.exec ∧ c.code = code ∧ meth.sig.returnType = ret ∧ c.maxLocals = 7 ∧ s.vm.findClass "LogBrokerLaw" = some m.cls ∧ (∀ w ∈ lw_tbl, w.before #[Value.ref b] s = true) ∧ va_X b L xs s s.heap ∧ b < s.heap.size ∧ meth.locks = false ∧ (Jvm.Cond.and given_1 narrow_1).before #[Value.ref b] s = true ∧ c.exceptionTable.toList = [] ∧ l.flags = pinnedFlags ++ [noTraceFlag]
theorem mw_G {p : Program} {l : Launch} {s : State} {m : MethodId} {meth : Method} {c : Code} {b L : Nat} {xs : Nat → Int32} (C0 : mw_At p l s m meth c b L xs) :
    ∃ G : mG, gb G = b ∧ gs G = s.heap.size ∧ gc G = tbCv ∧ gt G = tbTy ∧ gS G = tbSt ∧ gN G = tbNc ∧ mKs G s ∧ mHr G s.heap (mhp0 L xs) := by
  obtain ⟨hx, hb, hr, hml, hown, hts, hX, hbl, hlk, hgv, hex, hfl⟩ := C0
  obtain ⟨scr, x1, x2, x3, x4, x5⟩ := hX
  have hfl0 := flat_of_before _ hgv
  obtain ⟨cI, i1, i2⟩ := tb_arr (hts _ (WTs_lw tb_okA.2.1))
  obtain ⟨cJ, j1, j2⟩ := tb_arr (hts _ (WTs_lw tb_okA.2.2.1))
  obtain ⟨cL, l1, l2⟩ := tb_arrO (C := "LogBroker$Log") (hts _ (by decide +kernel))
  have hD : ∃ D : va_G, ∀ (ci : Nat) (q : vw_C), tbCv[ci]? = some q → u_Kn s q.1 q.2.1 q.2.2 (D.1 ci) (D.2 ci) := by
    have h : ∀ ci : Nat, ∃ d : ClassId × (Nat → Nat), ∀ q : vw_C, tbCv[ci]? = some q → u_Kn s q.1 q.2.1 q.2.2 d.1 d.2 := fun ci => by
      cases hc : tbCv[ci]? with
      | none => exact ⟨(0, fun _ => 0), fun q hq => by cases hq⟩
      | some q =>
        obtain ⟨cC, iS, h⟩ := tb_Kn hts ci q hc
        exact ⟨(cC, iS), fun q' hq' => by cases hq'; exact h⟩
    exact ⟨(fun ci => (Classical.choose (h ci)).1, fun ci => (Classical.choose (h ci)).2), fun ci q hq => Classical.choose_spec (h ci) q hq⟩
  obtain ⟨D, hD⟩ := hD
  refine ⟨(b, s.heap.size, D, tbCv, (fun ty => if ty = .int then cI else if ty = .long then cJ else cL), tbTy, L, xs, scr, s.heap, tbSt, tbNc), rfl, rfl, rfl, rfl, rfl, rfl, ?_, ?_⟩
  · refine ⟨⟨hD, fun k q hk => by cases hk⟩, fun ty ht => ?_, x1, x2, x3, x4, x5, tb_str hts, tb_mZ rfl rfl (hts _ ckZ_all.1.1) (hfl0 _ ckZ_all.2.1), tb_mZ rfl rfl (hts _ ckZ_all.1.2) (hfl0 _ ckZ_all.2.2), fun q hq => va_Nc.of (hfl0 _ (ckNc_all q hq))⟩
    have ht : ty ∈ tbTy := ht
    simp only [tbTy, List.mem_cons, List.not_mem_nil, or_false] at ht
    rcases ht with rfl | rfl | rfl
    · exact ⟨i1, i2⟩
    · exact ⟨j1, j2⟩
    · exact ⟨l1, l2⟩
  · refine ⟨Nat.le_refl 1, rfl, fun i hi => absurd hi (by show ¬ i + 1 < 1; omega), rfl, fun a ha => ?_, hbl, fun q hq => rfl⟩
    have ha : 1 ≤ a := ha
    cases a with
    | zero => omega
    | succ a => rfl
theorem whole_run {p : Program} {e : Env} {s : State} {m : MethodId} {below : List Frame} {meth : Method} {c : Code} (l : Launch) {b L : Nat} {xs : Nat → Int32} (C0 : mw_At p l s m meth c b L xs) {n : Nat} {hp' : mHp}
    (hrun : mrun tbP tbCM tbSM n tbLaw 0 (ment 7 [.ref 0]) [] (mhp0 L xs) = some (.inl (some (.int 1)), hp')) :
    W p l e room_1 s m #[Value.ref b] below meth c s.heap [] 0 0 (fun t => ∃ o, t.status = .running ∧ Ended t below o ∧ o = .returned (some (.int 1)) ∧ Framed s o t [] 601024 7293034) (entryFrame m ([Value.ref b] : List Value).toArray 7) := by
  obtain ⟨G, g1, g2, g3, g4, g5, g6, hK, hH⟩ := mw_G C0
  obtain ⟨hx, hb, hr, hml, hown, hts, hX, hbl, hlk, hgv, hex, hfl⟩ := C0
  have hOK : mOK tbP (gc G) (gt G) tbOn WTs := by
    rw [g3, g4]
    exact ⟨tb_okF, tb_okK, tb_okN, tb_okA, tb_okC.1⟩
  have hM : okM tbP (gc G) tbOn tbY WTs := by rw [g3]; exact tb_okM
  have hw : ∀ w ∈ WTs, ∀ a, w.before a s = true := fun w hw' a => mtr_ok (WTs_tr w hw') (State.WarmedH.refl s) (hts w (WTs_lw hw'))
  have run := mrun_ok (G := G) (P := tbP) (on := tbOn) (ny := tbY) (WT := WTs) (CM := tbCM) (SM := tbSM) hOK hM (okX_of (tb_okXs g3 g5) WTs_tr) (okH_of (tb_okHs g3 g6)) WTs_tr tb_okD (p := p) (l := l) hfl (e := e) hx
    n tbLaw 0 (ment 7 [.ref 0]) [] (mhp0 L xs) _ hrun room_1 s m #[Value.ref b] below meth c s.heap [] 0 0 ((lg_sl ([.ref b] : List Value) ++ List.replicate (7 - (lg_sl ([.ref b] : List Value)).length) Slot.unset).toArray) 0
    hb hml (by rw [hex]; rfl) hr hlk (fun h => by cases h) hown hw hK (by decide) (by decide)
    ⟨hH, by
      have h1 := ment_ok (b := gb G) (sz := gs G) (n := 7) (as := [.ref 0]) (by decide)
      rw [show ([Value.ref 0] : List Value).map (mcv (gb G) (gs G)) = [.ref b] from by rw [← g1]; rfl] at h1
      exact h1, (fun q hq => by cases hq), (by rw [g2]; show s.heap.size + 0 + 1 = s.heap.size + 1; rfl), rfl, (by show 0 + (601025 - 1) ≤ 601024; decide), (by show 0 + (7293034 - 0) ≤ 7293034; decide), (by show 1 ≤ 601025; decide), (by show 0 ≤ 7293034; decide)⟩
  rw [lg_entry_eq]
  refine W_mono (fun t ht => ?_) run
  obtain ⟨out, locs, cells, slots, h1, h2, h3, h4, h5, h6, h7, h8, h9, h10, h11⟩ := ht
  have h11 : out = .returned (some (.int 1)) := h11
  have h7 : s.heap.size + cells + 1 = gs G + hp'.1 := h7
  have h8 : 0 + slots = hp'.2.1 := h8
  have h9 : hp'.1 ≤ 601025 := h9
  have h10 : hp'.2.1 ≤ 7293034 := h10
  rw [g2] at h7
  exact ⟨out, h1, h2, h11, ⟨_, h11⟩, h3, h4.weaken (fun y hy hlt => absurd hlt (Nat.not_lt.mpr (by have := h5 y hy; rw [g2] at this; exact this))) (by omega) (by omega)⟩
