/-! Catching: the search through a method's table, whose catch types may not have been resolved yet. -/
theorem mgo_link {Q : Handler → Pre} {E : CtlPost} {e : Env} {d : Bool} {acts : List Action} {s : State} {f : JFrame} {a : Addr} {x : ExceptionTableEntry} {t : List ExceptionTableEntry} {c : ClassId} {cell : Cell} (hx : covers x f.pc = true) (h0 : x.catchType ≠ 0)
    (hl : s.vm.ClassLinks e.platform f.method.cls x.catchType c) (hcell : s.heap[a]? = some cell) (hobj : ∀ k, cell.vm ≠ .statics k)
    (hk : ∃ k, s.vm.classes[cell.cls]? = some k) (hc : ∃ k, s.vm.classes[c]? = some k) :
    wp (findHandler.go f a (x :: t)) Q E e d acts s ↔ if s.vm.assignable cell.cls c = true then Q (.found x.handlerPc) d acts (s.setVm (s.vm.noted f.method.cls x.catchType (.cls c))) else wp (findHandler.go f a t) Q E e d acts (s.setVm (s.vm.noted f.method.cls x.catchType (.cls c))) := by
  simp only [covers] at hx
  obtain ⟨ha, ht⟩ := (resolveClass_links e.toSetting hl).op (op := VmOp.resolveClass f.method.cls x.catchType) rfl
  have hal : s.vm.Alike (s.vm.noted f.method.cls x.catchType (.cls c)) := (Vm.Alike.refl s.vm).noted _ _ _
  obtain ⟨k1, hk1⟩ := hk
  obtain ⟨k2, hk2⟩ := hc
  obtain ⟨k1', hk1', -⟩ := hal.2.2 _ _ hk1
  obtain ⟨k2', hk2', -⟩ := hal.2.2 _ _ hk2
  have has : (s.vm.noted f.method.cls x.catchType (.cls c)).assignable cell.cls c = s.vm.assignable cell.cls c := hal.assignable _ _
  cases hfit : s.vm.assignable cell.cls c <;> rw [hfit] at has <;> simp [findHandler.go, hx, h0, ha, ht, hcell, hobj, hk1', hk2', has, VmOp.dirties, VmOp.acts]
theorem mgo {P : mP} {o ci t : Nat} {e : Env} {s₀ : State} {f : JFrame} {a : Addr} {cell : Cell} (hobj : ∀ k, cell.vm ≠ .statics k) (hk0 : ∃ k, s₀.vm.classes[cell.cls]? = some k) :
    ∀ (tab : List ExceptionTableEntry) (S : State), s₀.WarmedH S.vm → S.heap[a]? = some cell → mfind P o ci f.pc (tab.map (fun h => (h.startPc, h.endPc, h.handlerPc, h.catchType))) = some t →
      (∀ h ∈ tab, h.catchType ≠ 0 ∧ ∃ cT, s₀.vm.ClassLinks e.platform f.method.cls h.catchType cT ∧ s₀.vm.assignable cell.cls cT = mPt P o h.catchType ci) →
      ∃ vm', s₀.WarmedH vm' ∧ ∀ (Q : Handler → Pre) (E : CtlPost) (d : Bool) (acts : List Action), wp (findHandler.go f a tab) Q E e d acts S ↔ Q (.found t) d acts (S.setVm vm') := by
  obtain ⟨k0, hk0⟩ := hk0
  intro tab
  induction tab with
  | nil => intro S _ _ h; cases h
  | cons y ys ih =>
    intro S hW hcell h hall
    have hrest : ∀ h ∈ ys, h.catchType ≠ 0 ∧ ∃ cT, s₀.vm.ClassLinks e.platform f.method.cls h.catchType cT ∧ s₀.vm.assignable cell.cls cT = mPt P o h.catchType ci := fun z hz => hall z (List.mem_cons_of_mem _ hz)
    obtain ⟨h0, cT, hl, hfit⟩ := hall y List.mem_cons_self
    obtain ⟨k0', hk0', -⟩ := hW.alike.2.2 _ _ hk0
    have h : (if y.startPc ≤ f.pc ∧ f.pc < y.endPc ∧ mPt P o y.catchType ci = true then some y.handlerPc else mfind P o ci f.pc (ys.map (fun h => (h.startPc, h.endPc, h.handlerPc, h.catchType)))) = some t := h
    by_cases hcov : covers y f.pc = true
    · obtain ⟨dk, _, _, kt, hd, _, _, _, _, hkt, _, hopen⟩ := hl.here
      obtain ⟨kt', hkt', -⟩ := hW.alike.2.2 _ _ hkt
      have hW' := hW.noted hd hopen (State.rightAt_cls hl)
      have has : S.vm.assignable cell.cls cT = mPt P o y.catchType ci := by rw [hW.alike.assignable]; exact hfit
      have hcov2 : y.startPc ≤ f.pc ∧ f.pc < y.endPc := by simpa [covers] using hcov
      by_cases hp : mPt P o y.catchType ci = true
      · rw [if_pos ⟨hcov2.1, hcov2.2, hp⟩] at h
        cases h
        refine ⟨_, hW', fun Q E d acts => ?_⟩
        rw [mgo_link hcov h0 (hW.classLinks hl) hcell hobj ⟨k0', hk0'⟩ ⟨kt', hkt'⟩, has, if_pos hp]
      · rw [if_neg (fun q => hp q.2.2)] at h
        obtain ⟨vm', hW2, hq⟩ := ih (S.setVm (S.vm.noted f.method.cls y.catchType (.cls cT))) hW' hcell h hrest
        refine ⟨vm', hW2, fun Q E d acts => ?_⟩
        rw [mgo_link hcov h0 (hW.classLinks hl) hcell hobj ⟨k0', hk0'⟩ ⟨kt', hkt'⟩, has, if_neg hp]
        exact hq Q E d acts
    · have hcov2 : ¬ (y.startPc ≤ f.pc ∧ f.pc < y.endPc) := fun q => hcov (by simpa [covers] using q)
      rw [if_neg (fun q => hcov2 ⟨q.1, q.2.1⟩)] at h
      obtain ⟨vm', hW2, hq⟩ := ih S hW hcell h hrest
      refine ⟨vm', hW2, fun Q E d acts => ?_⟩
      rw [W.findHandler_go_skip (by simpa using hcov)]
      exact hq Q E d acts
theorem mcatch_step {e : Env} {s : State} {a : Addr} {f : JFrame} {r : List Frame} {pc : Nat} {vm' : Vm} (hfind : ∀ (Q : Handler → Pre) (E : CtlPost) (d : Bool) (acts : List Action), wp (findHandler f a) Q E e d acts s ↔ Q (.found pc) d acts (s.setVm vm')) :
    (stepThrowing e s a (.java f :: r)).Is ((s.setVm vm').setFrames (.java { f with pc := pc, stack := [.ref a] } :: r)) [] := by
  simp only [stepThrowing, searchFrame, vmDo]
  generalize hr : Sem.go _ e false [] s = res
  obtain ⟨as, rfl, ha⟩ := Sem.eq_ok_of hr (a := Handler.found pc) (s' := s.setVm vm') (acts' := []) (by simp [hfind _ _ _ _])
  exact ⟨rfl, ha⟩
theorem mcaught {tb : Tables} {e : Env} {s target : State} {g : JFrame} {c : Code} {below : List Frame} {a : Addr} (h : At s g.method c below) {pc : Nat} {vm' : Vm}
    (hfind : ∀ (Q : Handler → Pre) (E : CtlPost) (d : Bool) (acts : List Action), wp (findHandler g a) Q E e d acts ((s.setTop g).pushFrame (.throwing a)) ↔ Q (.found pc) d acts (((s.setTop g).pushFrame (.throwing a)).setVm vm'))
    (hrest : Steps tb e below ((s.setVm vm').setTop { g with pc := pc, stack := [.ref a] }) target) :
    Steps tb e below ((s.setTop g).pushFrame (.throwing a)) target := by
  obtain ⟨hgo, hw⟩ := h.throwing a
  refine Steps.head hgo hw ?_
  rw [stepThread_throwing (frames_entered h.top _), (mcatch_step (s := (s.setTop g).pushFrame (.throwing a)) hfind).1]
  obtain ⟨g₀, hg⟩ := Option.isSome_iff_exists.mp h.top
  obtain ⟨r, hr⟩ := State.topJava?_eq_some.mp hg
  have hr' : (s.setVm vm').frames = .java g₀ :: r := hr
  rw [State.setTop_of_frames _ hr'] at hrest
  have e1 : ((((s.setTop g).pushFrame (.throwing a)).setVm vm').setFrames (.java { g with pc := pc, stack := [.ref a] } :: s.frames.tail)) = ((s.setVm vm').setFrames (.java { g with pc := pc, stack := [.ref a] } :: r)) := by
    rw [State.pushFrame, State.setTop_of_frames _ hr, State.setFrames_setFrames]
    show ((s.setFrames _).setVm vm').setFrames _ = _
    rw [show (s.setFrames (Frame.throwing a :: (s.setFrames (Frame.java g :: r)).frames)).setVm vm' = (s.setVm vm').setFrames (Frame.throwing a :: (s.setFrames (Frame.java g :: r)).frames) from rfl, State.setFrames_setFrames, hr]
    rfl
  rw [e1]
  exact hrest
def okHs (G : mG) (P : mP) (on : Nat → String) (WT : List Cond) : Prop := ∀ mi h, h ∈ mPh P mi → ∀ ci r, (gc G)[ci]? = some r → h.2.2.2 ≠ 0 ∧ ∃ name, Cond.classLink (on (mPo P mi)) h.2.2.2 name ∈ WT ∧ (mPt P (mPo P mi) h.2.2.2 ci = true → Cond.castable r.1 name ∈ WT) ∧ (mPt P (mPo P mi) h.2.2.2 ci = false → (r.1, name) ∈ gN G)
theorem okH_of {G : mG} {P : mP} {on : Nat → String} {WT : List Cond} (hst : okHs G P on WT) : okH G P on WT := by
  intro p l e R s m args below meth c T locs cells slots pc t x ls mi st hp X hw hK hown hH hht hfd hx
  obtain ⟨ci, fs, hx⟩ := hx
  have hmc : mcls hp x = ci := by unfold mcls; rw [hx]
  rw [hmc, ← hht] at hfd
  obtain ⟨i, rfl, hi, hia, r, hr, cell, g1, g2, g3, -⟩ := hH.obj hx
  have hkn := (hK.1.1 ci r hr).2
  rw [hia]
  have hpl : e.platform.magicAccessors = ({} : Platform).magicAccessors := by rw [X.admits.platform]
  have hfc : s.vm.findClass r.1 = some cell.cls := by rw [g2]; exact hkn.1
  have hk0 : ∃ k, s.vm.classes[cell.cls]? = some k := by
    obtain ⟨kC, hkC, -⟩ := hkn.2
    exact ⟨kC, by rw [g2]; exact hkC⟩
  obtain ⟨vm', hW', hq⟩ := mgo (P := P) (o := mPo P mi) (ci := ci) (t := t) (e := e) (s₀ := s) (f := F0 m pc ls st) (a := gs G + i) (cell := cell) (fun k hk => by rw [g3] at hk; cases hk) hk0 c.exceptionTable.toList ((T.setTop (F0 m pc ls st)).pushFrame (.throwing (gs G + i))) X.warmed g1 hfd (fun h hh => by
    obtain ⟨h0, name, w1, w2, w3⟩ := hst mi _ (by rw [← hht]; exact List.mem_map_of_mem hh) ci r hr
    obtain ⟨cT, hcT, hcl⟩ := Cond.classLink_spec hown (hw _ w1 args) e.platform hpl
    refine ⟨h0, cT, hcl, ?_⟩
    cases hb : mPt P (mPo P mi) h.catchType ci with
    | true =>
      obtain ⟨c3, c4, hc3, hc4, hasg⟩ := Cond.castable_spec (hw _ (w2 hb) args)
      cases Option.some.inj (hc3.symm.trans hfc)
      cases Option.some.inj (hc4.symm.trans hcT)
      exact hasg
    | false =>
      obtain ⟨c3, c4, hc3, hc4, hasg⟩ := hK.2.2.2.2.2.2.2.2.2.2 _ (w3 hb)
      cases Option.some.inj (hc3.symm.trans hfc)
      cases Option.some.inj (hc4.symm.trans hcT)
      exact hasg)
  refine ⟨vm', X.noted hW', fun target hrest => ?_⟩
  refine mcaught (g := F0 m pc ls st) X.here (fun Q E d acts => ?_) hrest
  rw [W.findHandler_eq (meth := meth) (code := c) X.method' X.code]
  exact hq Q E d acts
