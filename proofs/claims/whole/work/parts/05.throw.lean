/-! Throwing a new exception, and catching it. -/
section MT
variable {p : Program} {l : Launch} {e : Env} {R : Room} {s : State} {m : MethodId} {args : Array Value} {below : List Frame} {meth : Method} {c : Code} {T : State} {locs : List Loc} {cells slots : Nat}
/-- the method's frame as it stands, as if the method were entered now -/
theorem mrebase (X : Stand p l e R s m args below meth c T locs cells slots) {R' : Room} (hf : R'.frames ≤ R.frames) (hl : R'.locals ≤ R.locals) (hc : cells + R'.cells ≤ R.cells) (hs : slots + R'.slots ≤ R.slots) :
    Stand p l e R' (T.setFrames (.invoking m args :: below)) m args below meth c T [] 0 0 := by
  obtain ⟨g₀, hfr⟩ := X.frames_eq
  have hcur : T.cur < T.threads.size := State.cur_lt_of_frames hfr
  have hF : (T.setFrames (.invoking m args :: below)).frames = .invoking m args :: below := State.frames_setFrames _ hcur
  have hal := X.warmed.alike
  have hm : (T.setFrames (.invoking m args :: below)).vm.method? m = some meth := X.method'
  have hlim : e.platform.stackLimits (T.setFrames (.invoking m args :: below)).me = e.platform.stackLimits s.me := by rw [State.stackLimits_setFrames]; exact X.limits
  have hby : (T.setFrames (.invoking m args :: below)).me.stackBytes = s.me.stackBytes := by rw [State.stackBytes_setFrames]; exact X.bytes
  refine ⟨X.admits, X.cas, X.clock, hF, ?_, ?_, hm, X.code, X.here, X.tail, State.WarmedH.refl _, ?_, ?_, ?_⟩
  · have hr := X.room
    have h1 := X.heapSize
    have h2 := X.used
    have h3 := X.book
    have e1 := State.localsInUse_invoking X.frames X.method X.code
    have e2 := State.localsInUse_invoking hF hm X.code
    simp only [State.hasRoom, Bool.and_eq_true, decide_eq_true_eq] at hr ⊢
    obtain ⟨⟨⟨⟨r1, r2, r3, r4, r5, r6⟩, r7⟩, r8⟩, r9⟩ := hr
    rw [e1] at r1 r4 r5
    rw [X.frames] at r2 r3
    rw [e2, hF, hlim, hby]
    exact ⟨⟨⟨⟨by omega, by omega, by omega, by omega, by omega, r6⟩, by show T.heap.size + _ ≤ _; omega⟩, by show T.slotsUsed + _ ≤ _; omega⟩, h3⟩
  · have hh := X.hears
    have hcd : ∀ z, (T.setFrames (.invoking m args :: below)).code? z = s.code? z := fun z => by
      rw [State.code?_eq, State.code?_eq]
      show (T.vm.method? z).bind _ = _
      rw [hal.method?]
    unfold State.hears at hh ⊢
    split at hh
    · rw [hcd]; exact hh
    · rfl
    · rfl
    · show (T.vm.method? m).any _ = true
      rw [hal.method?]
      exact hh
  · rw [State.stackLimits_setFrames]
  · rw [State.stackBytes_setFrames]
  · obtain ⟨t, ht, -⟩ := State.frames_cons hF
    have h := (State.sameButNew.refl (T.setFrames (.invoking m args :: below)) ht).setFrames T.frames (State.cur_lt_of_frames hF)
    rw [State.setFrames_setFrames] at h
    obtain ⟨t2, ht2, -⟩ := State.frames_cons hfr
    rw [State.setFrames_self ht2] at h
    exact h
end MT
def mZw : List Cond := [.laysStatic Bundle.tN "UNASSIGNED_STACK" Bundle.steD, .laysStatic Bundle.tN "SUPPRESSED_SENTINEL" Bundle.listD, .isRef (.static Bundle.tN "UNASSIGNED_STACK" Bundle.steD), .isRef (.static Bundle.tN "SUPPRESSED_SENTINEL" Bundle.listD)]
def okXs (G : mG) (P : mP) (on : Nat → String) (WT : List Cond) : Prop :=
  (∀ o i ci k z, mPx P o i = some (ci, k, z) → ∃ C T names, (gc G)[ci]? = some (C, T, 0) ∧ k = 6 ∧ Bundle.fit C = true ∧ (∀ n ∈ names, Bundle.fit n = true) ∧ names.length = 2 ∧ Cond.classLink (on o) i C ∈ WT ∧ Cond.instantiable C 6 ∈ WT ∧ Cond.initialized C ∈ WT ∧ ∀ w ∈ Bundle.ownAtoms (on o) z C names, w ∈ WT ∨ w ∈ mZw) ∧
  ∀ o q, mPk P o q = some .null → (on o, q) ∈ gS G
set_option maxHeartbeats 4000000 in
theorem okX_of {G : mG} {P : mP} {on : Nat → String} {WT : List Cond} (hst : okXs G P on WT) (hT : ∀ w ∈ WT, mtr w) : okX G P on WT := by
  intro p l e R s m args below meth c H locs cells slots cc pc ls nL ub CM SM o i ci k z q w ml st hp hfl hexec hb hw hK hown hml hex hlocks hfr hlo hS hpx hpk hd d3 d4 d6 d9 hr1 hr2 T hTH X
  obtain ⟨C, Tf, names, hcl, rfl, hfit, hnames, hlen, w1, w2, w3, hat⟩ := hst.1 _ _ _ _ _ hpx
  obtain ⟨hH, hLr, hloc, hcls, hsl, hrc, hrs, hmc, hms⟩ := hS
  have htr : e.platform.stackTraces = false := Launch.traces_off hfl X.admits
  have Y := mrebase X (R' := { frames := R.frames, cells := 1, slots := 6, locals := R.locals }) (Nat.le_refl _) (Nat.le_refl _) (by show cells + 1 ≤ _; omega) (by show slots + 6 ≤ _; omega)
  have hWs : s.WarmedH (T.setFrames (.invoking m args :: below)).vm := X.warmed
  have hheap : (T.setFrames (.invoking m args :: below)).heap = H := hTH
  have hBase : T.setFrames (.invoking m args :: below) = T.setFrames (.invoking m args :: below) := rfl
  generalize hs2 : T.setFrames (.invoking m args :: below) = s2 at Y hWs hheap
  have hw2 : ∀ w ∈ WT, ∀ a, w.before a s2 = true := fun w hw' a => mtr_ok (hT w hw') hWs (hw w hw' args)
  have hK2 := hK.moved hWs
  have hown2 : s2.vm.findClass (on o) = some m.cls := by rw [hWs.alike.findClass]; exact hown
  have hlow : ∀ q : Nat, q < gs G → s2.heap[q]? = (gh G)[q]? := by rw [hheap]; exact hH.2.2.2.2.2.2
  have hats : ∀ x ∈ Bundle.ownAtoms (on o) z C names, x.before args s2 = true := fun x hx => by
    rcases hat x hx with h | h
    · exact hw2 x h args
    · simp only [mZw, List.mem_cons, List.not_mem_nil, or_false] at h
      rcases h with rfl | rfl | rfl | rfl
      · exact hK2.2.2.2.2.2.2.2.2.1.lays hlow args
      · exact hK2.2.2.2.2.2.2.2.2.2.1.lays hlow args
      · exact hK2.2.2.2.2.2.2.2.2.1.isRef hlow args
      · exact hK2.2.2.2.2.2.2.2.2.2.1.isRef hlow args
  obtain ⟨tx, qa, hstr⟩ := hK2.2.2.2.2.2.2.2.1 _ (hst.2 _ _ hpk)
  have hkn := hK2.1.1 ci _ hcl
  have hex2 : ∀ pc, ∀ x ∈ c.exceptionTable.toList, covers x pc = false := fun pc x hx => by rw [hex] at hx; cases hx
  have main : W p l e { frames := R.frames, cells := 1, slots := 6, locals := R.locals } s2 m args below meth c H [] 0 0 (fun t => t.status = .running ∧ Ended t below (.threw H.size) ∧ s2.WarmedH t.vm ∧ s2.sameButNew ({ t with vm := s2.vm } : State) [] 1 6 ∧
      ∃ ce, t.heap[H.size]? = some ce ∧ ce.vm = .none ∧ s2.vm.findClass C = some ce.cls) (F0 m pc ls (st.map (gv G))) := by
    refine W.newcK hexec hb hown2 (hw2 _ w1 _) (hw2 _ w2 _) (hw2 _ w3 _) rfl hd (Nat.le_refl _) (Nat.le_refl _) hkn.2.1 rfl fun H' kC hkC e1 zz oq => ?_
    refine lv_dup hexec hb d3 rfl ?_
    have fin : W p l e { frames := R.frames, cells := 1, slots := 6, locals := R.locals } s2 m args below meth c H' [] (0 + 1) (0 + 6) (fun t => t.status = .running ∧ Ended t below (.threw H.size) ∧ s2.WarmedH t.vm ∧ s2.sameButNew ({ t with vm := s2.vm } : State) [] 1 6 ∧
      ∃ ce, t.heap[H.size]? = some ce ∧ ce.vm = .none ∧ s2.vm.findClass C = some ce.cls) (F0 m (pc + 4 + w) ls (.ref qa :: .ref H.size :: .ref H.size :: st.map (gv G))) := by
      intro T2 hT2 X2
      obtain ⟨U, u1, u2, u3, u4, u5, ce, u6, u7⟩ := X2.ctorThrowS hexec htr (own := on o) (cls := C) (names := names) (ic := z) hown2 hfit hnames hats (fun x hx => by cases hx) (a := H.size) hkn.2.1 hkC (by rw [hT2]; exact e1) (by rw [hheap]; exact Nat.le_refl _) (msg := .ref qa) rfl
        (g := F0 m (pc + 4 + w) ls (.ref qa :: .ref H.size :: .ref H.size :: st.map (gv G))) rfl (by rw [hml]; exact hLr.1) rfl rfl rfl (by rw [hb]; exact d6) (by rw [hb]; show decode cc (pc + 4 + w + 3) = _; rw [show pc + 4 + w + 3 = pc + 7 + w by omega]; exact d9) (hex2 _)
        (by show names.length + 3 < R.frames; omega) (by
          show 2 * 0 + mwd (.ref H.size :: st.map (gv G)) + _ ≤ R.locals
          have e9 : mwd (.ref H.size :: st.map (gv G)) = 1 + mwd (st.map (gv G)) := rfl
          rw [e9, mwd_map, hlen]
          omega) hlocks
      exact ⟨U, u1, u2, u3, u4, u5, ce, u6, u7.vm, u7.cls⟩
    rcases d4 with ⟨d4, rfl⟩ | ⟨d4, rfl⟩
    · exact va_ldcS hexec hb hown2 hstr d4 fin
    · intro T2 hT2 X2
      obtain ⟨t, a1, b1⟩ := fin T2 hT2 X2
      exact ⟨t, X2.ldcStringW hexec hown2 (text := tx) (a := qa) hstr.1 hstr.2 (g := F0 m (pc + 4) ls (.ref H.size :: .ref H.size :: st.map (gv G))) rfl (by rw [hb]; exact d4) t a1, b1⟩
  obtain ⟨t, t1, t2, t3, t4, t5, ce, t6, t7, t8⟩ := main T hTH Y
  have hW4 : s.WarmedH t.vm := by
    rw [← hs2] at t4
    exact State.WarmedH.trans X.warmed t4
  have hB : T.sameButNew ({ t with vm := T.vm } : State) [] 1 6 := by
    rw [← hs2] at t5
    obtain ⟨q1, q2⟩ := t5
    rw [State.setFrames_setFrames] at q1
    exact ⟨q1, q2⟩
  have hold : ∀ (q : Nat) (cell : Cell), H[q]? = some cell → t.heap[q]? = some cell := fun q cell hq => State.sameButNew.old_cell t5 (by rw [hheap]; exact hq)
  have hsz1 : H.size < t.heap.size := (Array.getElem?_eq_some_iff.mp t6).1
  have hsz2 : t.heap.size ≤ H.size + 1 := by
    have := t5.2.2.1
    rw [hheap] at this
    exact this
  have hcc : ce.cls = (gD G).1 ci := Option.some.inj (t8.symm.trans hkn.2.1)
  refine ⟨t, t1, _, locs ++ [], cells + 1, slots + 6, t2, t3, hW4, X.same.trans (hB.setVm s.vm), ?_, ?_, ?_, ?_, ?_, ?_, ?_⟩
  · rw [List.append_nil]; exact hloc
  · refine hH.push (c' := .inr (ci, [])) ⟨_, hcl, ce, t6, hcc, t7, fun j hj => absurd hj (Nat.not_lt_zero j)⟩ trivial (by omega) (fun q hq => ?_) _
    cases hc9 : H[q]? with
    | none =>
      have : q < H.size := hq
      simp at hc9
      omega
    | some cell => exact hold q cell hc9
  · show s.heap.size + (cells + 1) + 1 = gs G + (hp.1 + 1); omega
  · show ub + (slots + 6) = hp.2.1 + 6; omega
  · show hp.1 + 1 ≤ CM; omega
  · exact hr2
  · exact ⟨by rw [hH.top], ci, [], va_up_self _ _ _⟩
