/-! What the small machine computes the JVM's model does: calls, returns, throws. -/
theorem msteps_weaken {tb : Tables} {e : Env} {mid below : List Frame} {a b : State} (h : Steps tb e (mid ++ below) a b) (hm : mid = mid) : Steps tb e below a b := by
  obtain ⟨n, hn, w⟩ := h
  refine ⟨n, hn, fun k hk => ?_⟩
  obtain ⟨above, h1, h2, h3⟩ := w k hk
  refine ⟨above ++ mid, by rw [h1, List.append_assoc], fun h => ?_, fun q h => ?_⟩
  · exact h2 (List.append_eq_nil_iff.mp h).1
  · rcases List.append_eq_singleton_iff.mp h with ⟨h4, -⟩ | ⟨h4, -⟩
    · exact h2 h4
    · exact h3 q h4
theorem mspl_ok : ∀ (k : Nat) (acc st as r : List Value), mspl k acc st = some (as, r) → acc.reverse ++ st = as.reverse ++ r ∧ as.length = acc.length + k
  | 0, acc, st, as, r, h => by
    simp only [mspl, Option.some.injEq, Prod.mk.injEq] at h
    obtain ⟨rfl, rfl⟩ := h
    exact ⟨rfl, rfl⟩
  | k + 1, acc, [], as, r, h => by
    simp only [mspl] at h
    cases h
  | k + 1, acc, v :: st, as, r, h => by
    simp only [mspl] at h
    obtain ⟨h1, h2⟩ := mspl_ok k _ _ _ _ h
    refine ⟨by rw [← h1]; simp, by rw [h2]; simp; omega⟩
theorem margs_cons (v : Value) (vs : List Value) : margs (v :: vs) = (if v.category = 2 then [some v, none] else [some v]) ++ margs vs := rfl
theorem margs_at {b sz : Nat} : ∀ (vs : List Value) (l1 : mLs) (l2 : List Slot), (∀ (i : Nat) (v : Value), l1[i]? = some (some v) → l2[i]? = some (.val (mcv b sz v))) →
    ∀ (i : Nat) (v : Value), (margs vs ++ l1)[i]? = some (some v) → (lg_sl (vs.map (mcv b sz)) ++ l2)[i]? = some (.val (mcv b sz v))
  | [], l1, l2, h, i, v, hi => h i v hi
  | w :: vs, l1, l2, h, i, v, hi => by
    have ih := margs_at vs l1 l2 h
    have e1 : lg_sl ((w :: vs).map (mcv b sz)) = (if w.category = 2 then [.val (mcv b sz w), .second] else [.val (mcv b sz w)]) ++ lg_sl (vs.map (mcv b sz)) := by
      simp only [lg_sl, List.map_cons, List.flatMap_cons, mcv_cat]
    rw [margs_cons] at hi
    rw [e1]
    by_cases hc : w.category = 2
    · rw [if_pos hc] at hi ⊢
      match i, hi with
      | 0, hi => cases hi; rfl
      | 1, hi => cases hi
      | i + 2, hi => exact ih i v hi
    · rw [if_neg hc] at hi ⊢
      match i, hi with
      | 0, hi => cases hi; rfl
      | i + 1, hi => exact ih i v hi
theorem margs_len (b sz : Nat) : ∀ vs : List Value, (lg_sl (vs.map (mcv b sz))).length = (margs vs).length
  | [] => rfl
  | w :: vs => by
    have ih := margs_len b sz vs
    have e1 : lg_sl ((w :: vs).map (mcv b sz)) = (if w.category = 2 then [.val (mcv b sz w), .second] else [.val (mcv b sz w)]) ++ lg_sl (vs.map (mcv b sz)) := by
      simp only [lg_sl, List.map_cons, List.flatMap_cons, mcv_cat]
    rw [margs_cons, e1, List.length_append, List.length_append, ih]
    split <;> rfl
theorem ment_ok {b sz n : Nat} {as : List Value} (h : (margs as).length ≤ n) : mLr b sz ((lg_sl (as.map (mcv b sz)) ++ List.replicate (n - (lg_sl (as.map (mcv b sz))).length) Slot.unset).toArray) n (ment n as) := by
  have h0 : (lg_sl (as.map (mcv b sz))).length ≤ n := by rw [margs_len]; exact h
  obtain ⟨h1, h2, -⟩ := lv_entry (as.map (mcv b sz)) h0
  refine ⟨h1, h2, ?_, fun i v hi => ?_⟩
  · simp only [ment, List.length_append, List.length_replicate]
    omega
  · have := margs_at (b := b) (sz := sz) as _ (List.replicate (n - (lg_sl (as.map (mcv b sz))).length) Slot.unset) (fun i v hi => by
      have hm := List.mem_of_getElem? hi
      have := (List.mem_replicate.mp hm).2
      cases this) i v hi
    simpa using this
def mOut (G : mG) (out : Outcome) (hp : mHp) : mO → Prop
  | .inl v => out = .returned (v.map (gv G))
  | .inr x => out = .threw (mad (gb G) (gs G) x) ∧ ∃ ci fs, hp.2.2 x = .inr (ci, fs)
def mFin (G : mG) (CM SM : Nat) (s : State) (below : List Frame) (ub : Nat) (r : mO × mHp) : State → Prop := fun t =>
  ∃ (out : Outcome) (locs : List Loc) (cells slots : Nat), t.status = .running ∧ Ended t below out ∧ s.WarmedH t.vm ∧ s.sameButNew ({ t with vm := s.vm } : State) locs cells slots ∧ (∀ q ∈ locs, gs G ≤ q.base) ∧
    mHr G t.heap r.2 ∧ s.heap.size + cells + 1 = gs G + r.2.1 ∧ ub + slots = r.2.2.1 ∧ r.2.1 ≤ CM ∧ r.2.2.1 ≤ SM ∧ mOut G out r.2 r.1
theorem W_mono {p : Program} {l : Launch} {e : Env} {R : Room} {s : State} {m : MethodId} {args : Array Value} {below : List Frame} {meth : Method} {c : Code} {H : Heap} {locs : List Loc} {cells slots : Nat} {Q Q' : State → Prop} {g : JFrame}
    (h : ∀ t, Q t → Q' t) (k : W p l e R s m args below meth c H locs cells slots Q g) : W p l e R s m args below meth c H locs cells slots Q' g := fun T hT X => by
  obtain ⟨t, a, b⟩ := k T hT X
  exact ⟨t, a, h t b⟩
/-- the words that a method's name stands for -/
def okJ (P : mP) (on : Nat → String) (ny : Nat → MethodName) (WT : List Cond) (j : Nat) : Prop :=
  (Cond.codeWith (ny j) (mPb P j) (mPl P j) (mPr P j) (mPh P j) ∈ WT ∨ (Cond.code (ny j) (mPb P j) (mPl P j) (mPr P j) ∈ WT ∧ mPh P j = [])) ∧ plainFor (ny j) = true ∧ (ny j).cls = on (mPo P j) ∧ (mPz P j = true → (ny j).name = "<init>")
def okM (P : mP) (cl : List vw_C) (on : Nat → String) (ny : Nat → MethodName) (WT : List Cond) : Prop :=
  (∀ o i j k kind, mPc P o i = some (j, k, kind) → kind < 3 → okJ P on ny WT j ∧ ((ny j).cls ≠ "java/lang/invoke/MethodHandle" ∧ (ny j).cls ≠ "java/lang/invoke/VarHandle") ∧ (parseMethodDescriptor (ny j).desc).map (fun d => d.parameters.length) = some k ∧
    (Cond.methodLink (on o) i (ny j) ∈ WT ∨ ∃ host, Cond.methodLinkNest (on o) i (ny j) host ∈ WT) ∧
    (kind = 0 → Cond.static (ny j) ∈ WT ∧ Cond.initialized (ny j).cls ∈ WT) ∧ (kind = 1 → Cond.instanceMethod (ny j) ∈ WT ∧ ∃ r, cl[mPv P j]? = some r ∧ Cond.selects r.1 (ny j) (ny j) ∈ WT) ∧
    (kind = 2 → (ny j).name = "<init>" ∧ Cond.instanceMethod (ny j) ∈ WT ∧ Cond.code (ny j) (mPb P j) (mPl P j) none ∈ WT ∧ mPr P j = none)) ∧
  (∀ o i j k, mPc P o i = some (j, k, 3) → Cond.methodLink (on o) i Lib.objectInit ∈ WT ∧ Cond.instanceMethod Lib.objectInit ∈ WT ∧ Cond.code Lib.objectInit ⟨#[0xb1]⟩ 1 none ∈ WT)
theorem okJ_at {P : mP} {on : Nat → String} {ny : Nat → MethodName} {WT : List Cond} {j : Nat} {args : Array Value} {s : State} (h : okJ P on ny WT j) (hw : ∀ w ∈ WT, w.before args s = true) :
    ∃ mk meth ck, s.methodNamed? (ny j) = some mk ∧ s.vm.method? mk = some meth ∧ meth.code = some ck ∧ ck.code = mPb P j ∧ ck.maxLocals = mPl P j ∧ ck.exceptionTable.toList.map (fun h => (h.startPc, h.endPc, h.handlerPc, h.catchType)) = mPh P j ∧
      meth.sig.returnType = mPr P j ∧ meth.locks = false ∧ parseMethodDescriptor (ny j).desc = some meth.sig := by
  rcases h.1 with h1 | ⟨h1, h2⟩
  · exact Cond.codeWith_spec (hw _ h1)
  · have hc := hw _ h1
    obtain ⟨mk, hn⟩ := Cond.code_named hc
    obtain ⟨meth, ck, a1, a2, a3, a4, a5, a6, a7, a8⟩ := Cond.code_spec hn hc
    refine ⟨mk, meth, ck, hn, a1, a2, a3, a4, ?_, a5, a6, a8⟩
    have h0 : ck.exceptionTable.size = 0 := by simpa [Array.isEmpty] using a7
    rw [h2, List.eq_nil_of_length_eq_zero (show ck.exceptionTable.toList.length = 0 by simpa using h0)]
    rfl
theorem mlen_of {y : MethodName} {k : Nat} {sig : MethodDescriptor} (h : (parseMethodDescriptor y.desc).map (fun d => d.parameters.length) = some k) (h2 : parseMethodDescriptor y.desc = some sig) : k = sig.parameters.length := by
  rw [h2] at h
  exact (Option.some.inj h).symm
section MGO
variable {p : Program} {l : Launch} {e : Env} {R : Room} {s : State} {m : MethodId} {args : Array Value} {below : List Frame} {meth : Method} {c : Code} {T : State} {locs : List Loc} {cells slots : Nat}
variable {cc : ByteArray} {pc : Nat} {ls : Array Slot} {G : mG} {P : mP} {hp : mHp} {on : Nat → String} {ny : Nat → MethodName} {WT : List Cond} {o j : Nat} {ins : Instr} {st as r : List Value}
set_option maxHeartbeats 4000000 in
theorem mcall_go (X : Stand p l e R s m args below meth c T locs cells slots) (hexec : p.tables.exec = Jvm.exec) (hb : c.code = cc) (hown : s.vm.findClass (on o) = some m.cls) (hw : ∀ w ∈ WT, w.before args s = true) (hM : okM P (gc G) on ny WT) (hK : mKs G s) (hH : mHr G T.heap hp)
    (h : mcall P o ins st hp = some (j, as, r)) (hd : decode cc pc = .ok (ins, 3)) :
    okJ P on ny WT j ∧ ∃ mk vm₁, s.methodNamed? (ny j) = some mk ∧ Stand p l e R s m args below meth c (T.setVm vm₁) locs cells slots ∧
      ∀ target, (∀ acts, Steps p.tables e below (doInvoke e ((T.setVm vm₁).setTop (F0 m pc ls (r.map (gv G)))) acts mk (as.map (gv G)).toArray).1 target) → Steps p.tables e below (T.setTop (F0 m pc ls (st.map (gv G)))) target := by
  have hd' : decode c.code pc = .ok (ins, 3) := by rw [hb]; exact hd
  unfold mcall at h
  split at h
  · next i =>
    split at h
    · next j0 k0 hc =>
      split at h
      · next as0 r0 hs =>
        simp only [Option.some.injEq, Prod.mk.injEq] at h
        obtain ⟨rfl, rfl, rfl⟩ := h
        obtain ⟨oJ, hy, hpar, hl, h0, -, -⟩ := hM.1 _ _ _ _ _ hc (by decide)
        obtain ⟨w1, w2⟩ := h0 rfl
        obtain ⟨mk, methM, ck, hn, hm, -, -, -, -, -, -, hsig⟩ := okJ_at oJ hw
        have hst : methM.isStatic = true := Cond.static_spec hn hm (hw _ w1)
        obtain ⟨kP, hkP, -⟩ := className_of_methodNamed hn
        have hinitP : kP.init = .initialized := Cond.initialized_spec (findClass_of_methodNamed hn) hkP (hw _ w2)
        obtain ⟨e1, e2⟩ := mspl_ok _ _ _ _ _ hs
        have hstk : (F0 m pc ls (st.map (gv G))).stack = (as0.map (gv G)).reverse ++ r0.map (gv G) := by
          show st.map (gv G) = _
          rw [← List.map_reverse, ← List.map_append, ← e1]
          rfl
        have hln : (as0.map (gv G)).length = methM.sig.parameters.length := by
          rw [List.length_map, e2, ← mlen_of hpar hsig]
          simp
        rcases hl with hl | ⟨host, hl⟩
        · obtain ⟨vm₁, X₁, hst₁⟩ := X.invokestatic hexec hown (hw _ hl) hn hm hst hkP hinitP hy (g := F0 m pc ls (st.map (gv G))) rfl hln hstk hd'
          exact ⟨oJ, mk, vm₁, hn, X₁, hst₁⟩
        · obtain ⟨vm₁, X₁, hst₁⟩ := X.invokestaticNest hexec hown (hw _ hl) hn hm hst hkP hinitP hy (g := F0 m pc ls (st.map (gv G))) rfl hln hstk hd'
          exact ⟨oJ, mk, vm₁, hn, X₁, hst₁⟩
      · cases h
    · cases h
  · next i =>
    split at h
    · next j0 k0 hc =>
      split at h
      · next as0 a r0 hs =>
        split at h
        · next ci fs ha =>
          split at h
          · next hci =>
            simp only [Option.some.injEq, Prod.mk.injEq] at h
            obtain ⟨rfl, rfl, rfl⟩ := h
            obtain ⟨oJ, hy, hpar, hl, -, h1, -⟩ := hM.1 _ _ _ _ _ hc (by decide)
            obtain ⟨w1, rw0, hcl, w2⟩ := h1 rfl
            obtain ⟨mk, methM, ck, hn, hm, -, -, -, -, -, -, hsig⟩ := okJ_at oJ hw
            obtain ⟨mk', methM', hn', hm', hstM, habM⟩ := Cond.instanceMethod_spec (hw _ w1)
            cases hn.symm.trans hn'
            cases hm.symm.trans hm'
            obtain ⟨c2, r2, m2, q1, q2, q3, q4, kP, hkP, hkPi⟩ := Cond.selects_spec (hw _ w2)
            subst hci
            obtain ⟨i0, rfl, -, hia, r1, hr1, cell, g1, g2, g3, -⟩ := hH.obj ha
            have hcls := (hK.1.1 _ rw0 hcl).2.1
            rw [← g2] at hcls
            cases hcls.symm.trans q1
            cases (State.methodFound?_of_named hn hy).symm.trans q2
            cases hn.symm.trans q3
            have hselP : selectMethod e.platform s.vm cell.cls mk = .method mk := by rw [Launch.admits_selectMethod X.admits]; exact q4
            obtain ⟨e1, e2⟩ := mspl_ok _ _ _ _ _ hs
            have hstk : (F0 m pc ls (st.map (gv G))).stack = (as0.map (gv G)).reverse ++ .ref (gs G + i0) :: r0.map (gv G) := by
              show st.map (gv G) = _
              rw [← List.map_reverse]
              have e3 : st = as0.reverse ++ .ref (i0 + 1) :: r0 := by rw [← e1]; rfl
              rw [e3, List.map_append]
              rfl
            have hln : (as0.map (gv G)).length = methM.sig.parameters.length := by
              rw [List.length_map, e2, ← mlen_of hpar hsig]
              simp
            have hobj : ∀ z, cell.vm ≠ .statics z := fun z hz => by rw [g3] at hz; cases hz
            rcases hl with hl | ⟨host, hl⟩
            · obtain ⟨vm₁, X₁, hst₁⟩ := X.invokevirtual hexec hown (hw _ hl) hn hm hstM hkP hkPi hy (a := gs G + i0) (cell := cell) g1 hobj hselP hm habM hkP hkPi (g := F0 m pc ls (st.map (gv G))) rfl hln hstk hd'
              exact ⟨oJ, mk, vm₁, hn, X₁, hst₁⟩
            · obtain ⟨vm₁, X₁, hst₁⟩ := X.invokevirtualNest hexec hown (hw _ hl) hn hm hstM hkP hkPi hy (a := gs G + i0) (cell := cell) g1 hobj hselP hm habM hkP hkPi (g := F0 m pc ls (st.map (gv G))) rfl hln hstk hd'
              exact ⟨oJ, mk, vm₁, hn, X₁, hst₁⟩
          · cases h
        · cases h
      · cases h
    · cases h
  · next i =>
    split at h
    · next j0 k0 hc =>
      split at h
      · next as0 a r0 hs =>
        simp only [Option.some.injEq, Prod.mk.injEq] at h
        obtain ⟨rfl, rfl, rfl⟩ := h
        obtain ⟨oJ, hy, hpar, hl, -, -, h2⟩ := hM.1 _ _ _ _ _ hc (by decide)
        obtain ⟨w1, w2, w3, w4⟩ := h2 rfl
        obtain ⟨e1, e2⟩ := mspl_ok _ _ _ _ _ hs
        have hstk : (F0 m pc ls (st.map (gv G))).stack = (as0.map (gv G)).reverse ++ .ref (mad (gb G) (gs G) a) :: r0.map (gv G) := by
          show st.map (gv G) = _
          rw [← List.map_reverse]
          have e3 : st = as0.reverse ++ .ref a :: r0 := by rw [← e1]; rfl
          rw [e3, List.map_append]
          rfl
        have hln : ∀ sig, parseMethodDescriptor (ny j0).desc = some sig → (as0.map (gv G)).length = sig.parameters.length := fun sig hsig => by
          rw [List.length_map, e2, ← mlen_of hpar hsig]
          simp
        have hpl : e.platform.magicAccessors = ({} : Platform).magicAccessors := by rw [X.admits.platform]
        rcases hl with hl | ⟨host, hl⟩
        · obtain ⟨mk, methM, cM, kP, vm₁, hnamed, hmethM, hcodeM, -, hlocalsM, -, hkP, -, hW₁, hstep₁⟩ := Steps.initColdArgs (e := e) X.here hexec X.warmed hpl hown w1 hy (hw _ hl) (hw _ w2) (hw _ w3) (f := F0 m pc ls (st.map (gv G))) rfl hln hstk hd'
          exact ⟨oJ, mk, vm₁, hnamed, X.noted hW₁, hstep₁⟩
        · obtain ⟨mk, methM, cM, kP, vm₁, hnamed, hmethM, hcodeM, -, hlocalsM, -, hkP, -, hW₁, hstep₁⟩ := Steps.initColdArgsNest (e := e) X.here hexec X.warmed hpl hown w1 hy (hw _ hl) (hw _ w2) (hw _ w3) (f := F0 m pc ls (st.map (gv G))) rfl hln hstk hd'
          exact ⟨oJ, mk, vm₁, hnamed, X.noted hW₁, hstep₁⟩
      · cases h
    · cases h
  · cases h
end MGO
section MRET
variable {p : Program} {l : Launch} {e : Env} {R : Room} {s : State} {m : MethodId} {args : Array Value} {below : List Frame} {meth : Method} {c : Code} {H : Heap} {locs : List Loc} {cells slots : Nat}
variable {cc : ByteArray} {pc : Nat} {ls : Array Slot} {G : mG} {P : mP} {hp : mHp} {nL ub CM SM mi : Nat} {ins : Instr} {ml : mLs} {st : List Value}
theorem mq_fin (hS : mS G R s nL ub CM SM H locs cells slots ls ml hp) {v : Option Value} {t : State} (h : MQ below (fun _ _ o t => o = .returned (v.map (gv G)) ∧ t.heap = H) args s cells slots (fun a => gs G ≤ a) t) : mFin G CM SM s below ub (.inl v, hp) t := by
  obtain ⟨hH, hLr, hloc, hcl, hsl, hrc, hrs, hmc, hms⟩ := hS
  obtain ⟨o, h1, h2, h3, L, h4, h5⟩ := h
  exact ⟨o, L, cells, slots, h1, h2, h4.2.1, h4.2.2, h5, by rw [h3.2]; exact hH, hcl, hsl, hmc, hms, h3.1⟩
theorem mr_ret (hexec : p.tables.exec = Jvm.exec) (hb : c.code = cc) (hlocks : meth.locks = false) (hret : meth.sig.returnType = mPr P mi) (hS : mS G R s nL ub CM SM H locs cells slots ls ml hp) (hd : decode cc pc = .ok (ins, 1)) {v : Option Value} (h : mretv P mi ins st = some v) :
    W p l e R s m args below meth c H locs cells slots (mFin G CM SM s below ub (.inl v, hp)) (F0 m pc ls (st.map (gv G))) := by
  have hloc := hS.2.2.1
  unfold mretv at h
  split at h
  · next hr =>
    cases h
    exact W_mono (fun t => mq_fin hS) (W.vret hexec hb (hret.trans hr) (fun t ht _ => ⟨rfl, ht⟩) hloc hd hlocks)
  · next hr =>
    cases h
    exact W_mono (fun t => mq_fin hS) (W.iret hexec hb (hret.trans hr) (fun t ht _ => ⟨rfl, ht⟩) hloc hd hlocks)
  · next hr =>
    split at h
    · next hv =>
      cases h
      exact W_mono (fun t => mq_fin hS) (W.zret hexec hb (hret.trans hr) (by rcases hv with rfl | rfl <;> rfl) (fun t ht _ => ⟨rfl, ht⟩) hloc hd hlocks)
    · cases h
  · next hr =>
    cases h
    exact W_mono (fun t => mq_fin hS) (W.aret hexec hb (hret.trans hr) (Or.inl ⟨_, rfl⟩) (Or.inr ⟨_, rfl⟩) (fun t ht _ => ⟨rfl, ht⟩) hloc hd hlocks)
  · next hr =>
    cases h
    exact W_mono (fun t => mq_fin hS) (W.lret hexec hb (hret.trans hr) (fun t ht _ => ⟨rfl, ht⟩) hloc hd hlocks)
  · cases h
end MRET
/-- words that hold at every later state -/
def mtr (w : Cond) : Prop := (w.onTables && w.keepsFace) = true ∨ (∃ ty, w = .arrayClass ty) ∨ (∃ a i b n d h, w = .fieldLinkNest a i b n d h) ∨ (∃ a i x h, w = .methodLinkNest a i x h) ∨ ∃ C, w = .arrayOver (.object C)
theorem mtr_ok {w : Cond} (h : mtr w) {s U : State} (hW : s.WarmedH U.vm) {a a' : Array Value} (hb : w.before a s = true) : w.before a' U = true := by
  rcases h with h | ⟨ty, rfl⟩ | ⟨a1, i, b, n, d, h1, rfl⟩ | ⟨a1, i, x, h1, rfl⟩ | ⟨C, rfl⟩
  · simp only [Bool.and_eq_true] at h
    have h1 := Cond.before_shiftedFace (State.Shifted.of_warmed hW) w h.2 hb
    rw [Cond.onTables_vm (A' := a') (U' := U) U.vm w h.1, State.setVm_self] at h1
    exact h1
  · exact word_at hW (Or.inr ⟨ty, rfl⟩) hb
  · exact va_Nw.use rfl (va_Nw.warmF hW (va_Nw.of rfl hb))
  · exact va_Nw.use rfl (va_Nw.warmM hW (va_Nw.of rfl hb))
  · exact va_AO.use (va_AO.moved hW.alike (va_AO.of hb))
def okX (G : mG) (P : mP) (on : Nat → String) (WT : List Cond) : Prop := ∀ (p : Program) (l : Launch) (e : Env) (R : Room) (s : State) (m : MethodId) (args : Array Value) (below : List Frame) (meth : Method) (c : Code) (H : Heap) (locs : List Loc) (cells slots : Nat) (cc : ByteArray) (pc : Nat) (ls : Array Slot) (nL ub CM SM o i ci k z q w : Nat) (ml : mLs) (st : List Value) (hp : mHp),
  l.flags = pinnedFlags ++ [noTraceFlag] → p.tables.exec = Jvm.exec → c.code = cc → (∀ w ∈ WT, ∀ a, w.before a s = true) → mKs G s → s.vm.findClass (on o) = some m.cls → c.maxLocals = nL → c.exceptionTable.toList = [] → meth.locks = false → 6 ≤ R.frames → mwd st + 82 ≤ R.locals → mS G R s nL ub CM SM H locs cells slots ls ml hp →
  mPx P o i = some (ci, k, z) → mPk P o q = some .null → decode cc pc = .ok (.new i, 3) → decode cc (pc + 3) = .ok (.dup, 1) → ((decode cc (pc + 4) = .ok (.ldc q, 2) ∧ w = 2) ∨ (decode cc (pc + 4) = .ok (.ldc_w q, 3) ∧ w = 3)) → decode cc (pc + 4 + w) = .ok (.invokespecial z, 3) → decode cc (pc + 7 + w) = .ok (.athrow, 1) → hp.1 < CM → hp.2.1 + k ≤ SM →
  W p l e R s m args below meth c H locs cells slots (mFin G CM SM s below ub (.inr hp.1, hp.1 + 1, hp.2.1 + k, va_up hp.2.2 hp.1 (.inr (ci, [])))) (F0 m pc ls (st.map (gv G)))
def okH (G : mG) (P : mP) (on : Nat → String) (WT : List Cond) : Prop := ∀ (p : Program) (l : Launch) (e : Env) (R : Room) (s : State) (m : MethodId) (args : Array Value) (below : List Frame) (meth : Method) (c : Code) (T : State) (locs : List Loc) (cells slots : Nat) (pc t x : Nat) (ls : Array Slot) (mi : Nat) (st : List Value) (hp : mHp),
  Stand p l e R s m args below meth c T locs cells slots → (∀ w ∈ WT, ∀ a, w.before a s = true) → mKs G s → s.vm.findClass (on (mPo P mi)) = some m.cls → mHr G T.heap hp → c.exceptionTable.toList.map (fun h => (h.startPc, h.endPc, h.handlerPc, h.catchType)) = mPh P mi →
  mfind P (mPo P mi) (mcls hp x) pc (mPh P mi) = some t → (∃ ci fs, hp.2.2 x = .inr (ci, fs)) →
  ∃ vm', Stand p l e R s m args below meth c (T.setVm vm') locs cells slots ∧ ∀ target, Steps p.tables e below ((T.setVm vm').setTop (F0 m t ls [.ref (mad (gb G) (gs G) x)])) target → Steps p.tables e below ((T.setTop (F0 m pc ls st)).pushFrame (.throwing (mad (gb G) (gs G) x))) target
theorem mwd_map (b sz : Nat) (l : List Value) : mwd (l.map (mcv b sz)) = mwd l := by
  unfold mwd
  rw [List.map_map]
  congr 1
  exact List.map_congr_left fun v _ => mcv_cat b sz v
theorem mobj_inv {P : mP} {o : Nat} {ins : Instr} {st r : List Value} (h : mobj P o ins st = some r) : ∃ i j k a, ins = .invokespecial i ∧ mPc P o i = some (j, k, 3) ∧ st = .ref a :: r := by
  unfold mobj at h
  split at h
  · split at h
    · next hc =>
      cases h
      exact ⟨_, _, _, _, rfl, hc, rfl⟩
    · cases h
  · cases h
theorem mthr_inv {P : mP} {mi pc ci k : Nat} {ins : Instr} (h : mthr P mi ins pc = some (ci, k)) : ∃ i z q w, ins = .new i ∧ mPx P (mPo P mi) i = some (ci, k, z) ∧ mPk P (mPo P mi) q = some .null ∧ mPi P mi (pc + 3) = some (.dup, 1) ∧
    ((mPi P mi (pc + 4) = some (.ldc q, 2) ∧ w = 2) ∨ (mPi P mi (pc + 4) = some (.ldc_w q, 3) ∧ w = 3)) ∧ mPi P mi (pc + 4 + w) = some (.invokespecial z, 3) ∧ mPi P mi (pc + 7 + w) = some (.athrow, 1) := by
  unfold mthr at h
  split at h
  · split at h
    · next hpx d3 d4 =>
      split at h
      · next d6 d9 =>
        split at h
        · next hq =>
          obtain ⟨hq1, rfl⟩ := hq
          cases h
          exact ⟨_, _, _, 2, rfl, hpx, hq1, d3, Or.inl ⟨d4, rfl⟩, d6, d9⟩
        · cases h
      · cases h
    · next hpx d3 d4 =>
      split at h
      · next d6 d9 =>
        split at h
        · next hq =>
          obtain ⟨hq1, rfl⟩ := hq
          cases h
          exact ⟨_, _, _, 3, rfl, hpx, hq1, d3, Or.inr ⟨d4, rfl⟩, d6, d9⟩
        · cases h
      · cases h
    · cases h
  · cases h
theorem mrt (v : Option Value) (r : List Value) (f : Value → Value) : (v.map f).toList ++ r.map f = (v.toList ++ r).map f := by
  cases v <;> rfl
set_option maxHeartbeats 4000000 in
theorem mrun_ok {G : mG} {P : mP} {on : Nat → String} {ny : Nat → MethodName} {WT : List Cond} {CM SM : Nat} (hOK : mOK P (gc G) (gt G) on WT) (hM : okM P (gc G) on ny WT) (hX : okX G P on WT) (hC : okH G P on WT) (hT : ∀ w ∈ WT, mtr w) (hDc : okD P) {p : Program} {l : Launch} (hfl : l.flags = pinnedFlags ++ [noTraceFlag]) {e : Env} (hexec : p.tables.exec = Jvm.exec) :
    ∀ (n mi pc : Nat) (ml : mLs) (st : List Value) (hp : mHp) (r : mO × mHp), mrun P CM SM n mi pc ml st hp = some r →
    ∀ (R : Room) (s : State) (m : MethodId) (args : Array Value) (below : List Frame) (meth : Method) (c : Code) (H : Heap) (locs : List Loc) (cells slots : Nat) (ls : Array Slot) (ub : Nat),
    c.code = mPb P mi → c.maxLocals = mPl P mi → c.exceptionTable.toList.map (fun h => (h.startPc, h.endPc, h.handlerPc, h.catchType)) = mPh P mi → meth.sig.returnType = mPr P mi → meth.locks = false → (mPz P mi = true → meth.name = "<init>") → s.vm.findClass (on (mPo P mi)) = some m.cls →
    (∀ w ∈ WT, ∀ a, w.before a s = true) → mKs G s → (mPw P mi).1 ≤ R.frames → (mPw P mi).2 ≤ R.locals → mS G R s (mPl P mi) ub CM SM H locs cells slots ls ml hp →
    W p l e R s m args below meth c H locs cells slots (mFin G CM SM s below ub r) (F0 m pc ls (st.map (gv G))) := by
  intro n
  induction n with
  | zero => intro mi pc ml st hp r h; simp only [mrun] at h; cases h
  | succ n ih =>
    intro mi pc ml st hp r h R s m args below meth c H locs cells slots ls ub hb hml hht hret hlocks hini hown hw hK hRf hRl hS
    have hS0 := hS
    obtain ⟨hH, hLr, hloc, hcl, hsl, hrc, hrs, hmc, hms⟩ := hS
    simp only [mrun] at h
    split at h
    · next ins len hdi =>
      have hd := hDc _ _ _ hdi
      split at h
      · next v hv =>
        split at h
        · next hl =>
          subst hl
          cases h
          exact mr_ret hexec hb hlocks hret hS0 hd hv
        · cases h
      · split at h
        · next j as r0 hcall =>
          split at h
          · next hcond =>
              obtain ⟨rfl, hfr, hroom, hargs⟩ := hcond
              intro T hTH X
              obtain ⟨oJ, mk, vm₁, hn, X₁, hstep⟩ := mcall_go X hexec hb hown (fun w hw' => hw w hw' _) hM hK (by rw [hTH]; exact hH) hcall hd (ls := ls)
              obtain ⟨mk', methk, ck, f1, f2, f3, f4, f5, f6, f7, f8, f9⟩ := okJ_at oJ (fun w hw' => hw w hw' args)
              cases hn.symm.trans f1
              have hW₁ := X₁.warmed
              have hal := hW₁.alike
              have hmk : (T.setVm vm₁).vm.method? mk = some methk := by rw [hal.method?]; exact f2
              have hn₁ : (T.setVm vm₁).methodNamed? (ny j) = some mk := X₁.named hn
              have hpk : (T.setVm vm₁).plainMethod mk := State.plainMethod.of_named oJ.2.1 hn₁ hmk
              have hsize : (F0 m pc ls (r0.map (gv G))).locals.size = c.maxLocals := by rw [hml]; exact hLr.1
              have hcat := mwd_map (gb G) (gs G) r0
              have hheap₁ : (T.setVm vm₁).heap = H := hTH
              obtain ⟨Y, hin⟩ := X₁.into (g := F0 m pc ls (r0.map (gv G))) rfl hsize (by rw [hb]; exact hd) (as.map (gv G)).toArray (R' := { frames := (mPw P j).1, cells := R.cells - cells, slots := R.slots - slots, locals := (mPw P j).2 }) hmk f3 f8 hpk
                (by show (mPw P j).1 + 1 ≤ _; omega) (by show 2 * 0 + mwd (r0.map (gv G)) + (ck.maxLocals + 11) + (mPw P j).2 ≤ _; rw [f5, hcat]; omega) (by show cells + (R.cells - cells) ≤ _; omega) (by show slots + (R.slots - slots) ≤ _; omega)
              rw [f5] at Y hin
              have hsv : s.WarmedH ((T.setVm vm₁).calling (F0 m pc ls (r0.map (gv G))) mk (as.map (gv G)).toArray).vm := hW₁
              have hsh : ((T.setVm vm₁).calling (F0 m pc ls (r0.map (gv G))) mk (as.map (gv G)).toArray).heap = H := hheap₁
              generalize hs' : (T.setVm vm₁).calling (F0 m pc ls (r0.map (gv G))) mk (as.map (gv G)).toArray = s' at Y hsv hsh
              obtain ⟨kS, hkS, -⟩ : ∃ x, x = s' ∧ True := ⟨_, rfl, trivial⟩
              have hn' : s.vm.findClass (ny j).cls = some mk.cls := findClass_of_methodNamed hn
              have hrun : ∃ res, mrun P CM SM n j 0 (ment (mPl P j) as) [] hp = some res := by
                cases hq : mrun P CM SM n j 0 (ment (mPl P j) as) [] hp with
                | none => rw [hq] at h; cases h
                | some res => exact ⟨res, rfl⟩
              obtain ⟨⟨ro, hp'⟩, hres⟩ := hrun
              have hH1 : H.size + 1 = gs G + hp.1 := hH.2.1
              have inner := ih j 0 (ment (mPl P j) as) [] hp (ro, hp') hres { frames := (mPw P j).1, cells := R.cells - cells, slots := R.slots - slots, locals := (mPw P j).2 } s' mk (as.map (gv G)).toArray (.java (F0 m pc ls (r0.map (gv G))) :: below) methk ck H [] 0 0
                ((lg_sl (as.map (gv G)) ++ List.replicate (mPl P j - (lg_sl (as.map (gv G))).length) Slot.unset).toArray) hp.2.1 f4 f5 f6 f7 f8 (fun hz => by rw [(name_of_methodNamed hn f2).1]; exact oJ.2.2.2 hz) (by rw [← oJ.2.2.1, hsv.alike.findClass]; exact hn')
                (fun w hw' a => mtr_ok (hT w hw') hsv (hw w hw' args)) (hK.moved hsv) (Nat.le_refl _) (Nat.le_refl _)
                ⟨hH, ment_ok hargs, (fun q hq => by cases hq), (by rw [hsh]; omega), rfl, by show 0 + (CM - hp.1) ≤ R.cells - cells; omega, by show 0 + (SM - hp.2.1) ≤ R.slots - slots; omega, hmc, hms⟩
              rw [show F0 mk 0 ((lg_sl (as.map (gv G)) ++ List.replicate (mPl P j - (lg_sl (as.map (gv G))).length) Slot.unset).toArray) (([] : List Value).map (gv G)) = entryFrame mk (as.map (gv G)).toArray (mPl P j) from (lg_entry_eq _ _ _).symm] at inner
              obtain ⟨t, hsteps, out, L, k', n', g1, g2, g3, g4, g5, g6, g7, g8, g9, g10, g11⟩ := inner _ (by exact hTH) Y
              rw [hres] at h
              rw [hsh] at g7
              have g6 : mHr G t.heap hp' := g6
              have g7 : H.size + k' + 1 = gs G + hp'.1 := g7
              have g8 : hp.2.1 + n' = hp'.2.1 := g8
              have g9 : hp'.1 ≤ CM := g9
              have g10 : hp'.2.1 ≤ SM := g10
              cases ro with
              | inl v =>
                have g11 : out = .returned (v.map (gv G)) := g11
                subst g11
                rw [← hs'] at g3 g4
                obtain ⟨T', X', hW', hB', ht⟩ := X₁.outOf (g := F0 m pc ls (r0.map (gv G))) rfl (by rw [hb]; exact hd) g2 g3 g4
                have hT'h : T'.heap = t.heap := by rw [ht]; rfl
                have rest := ih mi (pc + 3) ml (v.toList ++ r0) hp' r h R s m args below meth c T'.heap (locs ++ L) (cells + k') (slots + n') ls ub hb hml hht hret hlocks hini hown hw hK hRf hRl
                  ⟨by rw [hT'h]; exact g6, hLr, (fun q hq => (List.mem_append.mp hq).elim (hloc q) (g5 q)), by omega, by omega, by omega, by omega, g9, g10⟩
                obtain ⟨t2, s2, q2⟩ := rest T' rfl X'
                refine ⟨t2, hstep t2 fun acts => ?_, q2⟩
                rw [hin acts]
                refine (msteps_weaken (mid := [.java (F0 m pc ls (r0.map (gv G)))]) hsteps rfl).trans ?_
                rw [ht]
                rw [← mrt] at s2
                exact s2
              | inr x =>
                obtain ⟨g11, g12⟩ : out = .threw (mad (gb G) (gs G) x) ∧ ∃ ci fs, hp'.2.2 x = .inr (ci, fs) := g11
                subst g11
                rw [← hs'] at g3 g4
                obtain ⟨T', X', hW', hB', ht⟩ := X₁.outOfThrown (g := F0 m pc ls (r0.map (gv G))) rfl g2 g3 g4
                have hT'h : T'.heap = t.heap := by rw [ht]; rfl
                have hend : ∀ {t2 : State}, Steps p.tables e below ((T'.setTop (F0 m pc ls (r0.map (gv G)))).pushFrame (.throwing (mad (gb G) (gs G) x))) t2 → Steps p.tables e below (T.setTop (F0 m pc ls (st.map (gv G)))) t2 := fun {t2} s2 => hstep t2 fun acts => by
                  rw [hin acts]
                  refine (msteps_weaken (mid := [.java (F0 m pc ls (r0.map (gv G)))]) hsteps rfl).trans ?_
                  rw [ht]
                  exact s2
                have h : (match mfind P (mPo P mi) (mcls hp' x) pc (mPh P mi) with
                  | some t => mrun P CM SM n mi t ml [.ref x] hp'
                  | none => if mPh P mi = [] then some (.inr x, hp') else none) = some r := h
                split at h
                · next tp hfd =>
                  obtain ⟨vm', X'', hcat⟩ := hC p l e R s m args below meth c T' (locs ++ L) (cells + k') (slots + n') pc tp x ls mi (r0.map (gv G)) hp' X' hw hK hown (by rw [hT'h]; exact g6) hht hfd g12
                  have rest := ih mi tp ml [.ref x] hp' r h R s m args below meth c T'.heap (locs ++ L) (cells + k') (slots + n') ls ub hb hml hht hret hlocks hini hown hw hK hRf hRl
                    ⟨by rw [hT'h]; exact g6, hLr, (fun q hq => (List.mem_append.mp hq).elim (hloc q) (g5 q)), by omega, by omega, by omega, by omega, g9, g10⟩
                  obtain ⟨t2, s2, q2⟩ := rest (T'.setVm vm') rfl X''
                  exact ⟨t2, hend (hcat t2 s2), q2⟩
                · split at h
                  · next hnil =>
                    cases h
                    have hex : c.exceptionTable.toList = [] := by
                      rw [hnil] at hht
                      exact List.map_eq_nil_iff.mp hht
                    obtain ⟨s2, q1, q2, q3, q4⟩ := X'.leaveThrown (mad (gb G) (gs G) x) (g := F0 m pc ls (r0.map (gv G))) rfl rfl rfl (by rw [hex]; intro y hy; cases hy) hlocks
                    exact ⟨_, hend s2, _, locs ++ L, cells + k', slots + n', q1, q2, q3, q4, (fun q hq => (List.mem_append.mp hq).elim (hloc q) (g5 q)), by show mHr G T'.heap hp'; rw [hT'h]; exact g6, by show _ = gs G + hp'.1; omega, by show _ = hp'.2.1; omega, g9, g10, rfl, g12⟩
                  · cases h
          · cases h
        · split at h
          · next r0 hobj =>
            split at h
            · next hl =>
              obtain ⟨rfl, hr1, hr2⟩ := hl
              obtain ⟨i, j3, k3, a3, rfl, hc3, rfl⟩ := mobj_inv hobj
              obtain ⟨w1, w2, w3⟩ := hM.2 _ _ _ _ hc3
              have hcat := mwd_map (gb G) (gs G) r0
              exact W.objInit hexec hb hown (hw _ w1 _) (hw _ w2 _) (hw _ w3 _) rfl (by rw [hml]; exact hLr.1) rfl hd (by omega) (by show 2 * 0 + mwd (r0.map (gv G)) + 12 ≤ _; rw [hcat]; omega) (ih mi (pc + 3) ml r0 hp r h R s m args below meth c H locs cells slots ls ub hb hml hht hret hlocks hini hown hw hK hRf hRl hS0)
            · cases h
          · split at h
            · next ci k hthr =>
              split at h
              · next hcn =>
                obtain ⟨hrm, hnil, rfl, hfr, hsl2⟩ := hcn
                obtain ⟨hrm1, hrm2⟩ := mroom_ok hrm
                cases h
                have hex : c.exceptionTable.toList = [] := by
                  rw [hnil] at hht
                  exact List.map_eq_nil_iff.mp hht
                obtain ⟨i, z, q, w, rfl, hpx, hq1, d3, d4, d6, d9⟩ := mthr_inv hthr
                refine hX p l e R s m args below meth c H locs cells slots (mPb P mi) pc ls (mPl P mi) ub CM SM (mPo P mi) i ci k z q w ml st hp hfl hexec hb hw hK hown hml hex hlocks (by omega) (by omega) hS0 hpx hq1 hd (hDc _ _ _ d3) ?_ (hDc _ _ _ d6) (hDc _ _ _ d9) hrm1 hrm2
                rcases d4 with ⟨d4, e4⟩ | ⟨d4, e4⟩
                · exact Or.inl ⟨hDc _ _ _ d4, e4⟩
                · exact Or.inr ⟨hDc _ _ _ d4, e4⟩
              · cases h
            · split at h
              · next hlk =>
                split at h
                · next pc' ml' st' hp' hstp =>
                  exact mstep_ok hexec hb (fun w hw' => hw w hw' _) hOK hK hini hown hS0 hd hlk hstp fun H' locs' cells' slots' ls' hS' => ih mi pc' ml' st' hp' r h R s m args below meth c H' locs' cells' slots' ls' ub hb hml hht hret hlocks hini hown hw hK hRf hRl hS'
                · cases h
              · cases h
    · cases h
