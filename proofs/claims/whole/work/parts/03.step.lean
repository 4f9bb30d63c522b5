/-! One step of the small machine is one step of the JVM's model. -/
def mOK (P : mP) (cl : List vw_C) (tl : List FieldType) (on : Nat → String) (WT : List Cond) : Prop := okF P cl on WT ∧ okK P cl WT ∧ okN P cl on WT ∧ okA P tl on WT ∧ okC P on WT
def mS (G : mG) (R : Room) (s : State) (nL ub CM SM : Nat) (H : Heap) (locs : List Loc) (cells slots : Nat) (ls : Array Slot) (ml : mLs) (hp : mHp) : Prop :=
  mHr G H hp ∧ mLr (gb G) (gs G) ls nL ml ∧ (∀ q ∈ locs, gs G ≤ q.base) ∧ s.heap.size + cells + 1 = gs G + hp.1 ∧ ub + slots = hp.2.1 ∧ cells + (CM - hp.1) ≤ R.cells ∧ slots + (SM - hp.2.1) ≤ R.slots ∧ hp.1 ≤ CM ∧ hp.2.1 ≤ SM
set_option maxHeartbeats 4000000 in
set_option maxRecDepth 100000 in
theorem mstep_ok {p : Program} {l : Launch} {e : Env} {R : Room} {s : State} {m : MethodId} {args : Array Value} {below : List Frame} {meth : Method} {c : Code} {H : Heap} {locs : List Loc} {cells slots : Nat} {Q : State → Prop}
    {cc : ByteArray} {pc : Nat} {ls : Array Slot} {G : mG} {P : mP} {hp : mHp} {on : Nat → String} {WT : List Cond} {nL ub CM SM o len : Nat} {ini : Bool} {ins : Instr} {ml : mLs} {st : List Value} {pc' : Nat} {ml' : mLs} {st' : List Value} {hp' : mHp}
    (hexec : p.tables.exec = Jvm.exec) (hb : c.code = cc) (hw : ∀ w ∈ WT, w.before args s = true) (hOK : mOK P (gc G) (gt G) on WT) (hK : mKs G s) (hini : ini = true → meth.name = "<init>") (hown : s.vm.findClass (on o) = some m.cls)
    (hS : mS G R s nL ub CM SM H locs cells slots ls ml hp) (hd : decode cc pc = .ok (ins, len)) (hlen : mlok ins len = true) (h : mstep P CM SM ini o ins pc ml st hp = some (pc', ml', st', hp'))
    (kk : ∀ (H' : Heap) (locs' : List Loc) (cells' slots' : Nat) (ls' : Array Slot), mS G R s nL ub CM SM H' locs' cells' slots' ls' ml' hp' → W p l e R s m args below meth c H' locs' cells' slots' Q (F0 m pc' ls' (st'.map (gv G)))) :
    W p l e R s m args below meth c H locs cells slots Q (F0 m pc ls (st.map (gv G))) := by
  obtain ⟨oF, oK, oN, oA, oC⟩ := hOK
  have hS0 := hS
  obtain ⟨hH, hLr, hloc, hcl, hsl, hrc, hrs, hmc, hms⟩ := hS
  cases ins
  case iconst n =>
    have el : len = 1 := of_decide_eq_true hlen
    subst el
    simp only [mstep, Option.some.injEq, Prod.mk.injEq] at h
    obtain ⟨rfl, rfl, rfl, rfl⟩ := h
    exact lv_iconst hexec hb hd rfl (kk _ _ _ _ _ hS0)
  case bipush n =>
    have el : len = 2 := of_decide_eq_true hlen
    subst el
    simp only [mstep, Option.some.injEq, Prod.mk.injEq] at h
    obtain ⟨rfl, rfl, rfl, rfl⟩ := h
    exact lv_bipush hexec hb hd rfl (kk _ _ _ _ _ hS0)
  case sipush n =>
    have el : len = 3 := of_decide_eq_true hlen
    subst el
    simp only [mstep, Option.some.injEq, Prod.mk.injEq] at h
    obtain ⟨rfl, rfl, rfl, rfl⟩ := h
    exact lv_sipush hexec hb hd rfl (kk _ _ _ _ _ hS0)
  case lconst n =>
    have el : len = 1 := of_decide_eq_true hlen
    subst el
    simp only [mstep, Option.some.injEq, Prod.mk.injEq] at h
    obtain ⟨rfl, rfl, rfl, rfl⟩ := h
    exact lv_lconst hexec hb hd rfl (kk _ _ _ _ _ hS0)
  case ldc i =>
    have el : len = 2 := of_decide_eq_true hlen
    subst el
    obtain ⟨v, h1, rfl, rfl, rfl, rfl⟩ := mldc_inv (show mldc P o i (pc + 2) ml st hp = _ from h)
    exact lv_ldc hexec hb hown (hw _ (oC.1 _ _ _ h1)) hd (kk _ _ _ _ _ hS0)
  case ldc2_w i =>
    have el : len = 3 := of_decide_eq_true hlen
    subst el
    obtain ⟨v, h1, rfl, rfl, rfl, rfl⟩ := mldc2_inv (show mldc2 P o i (pc + 3) ml st hp = _ from h)
    exact lv_ldc2 hexec hb hown (hw _ (oC.2 _ _ _ h1)) hd (kk _ _ _ _ _ hS0)
  case iload i =>
    have el : len = 2 := of_decide_eq_true hlen
    subst el
    obtain ⟨x, h1, h2⟩ := mldI_inv (show mldI ml i (fun v => some (pc + 2, ml, v :: st, hp)) = some (pc', ml', st', hp') from h)
    simp only [Option.some.injEq, Prod.mk.injEq] at h2
    obtain ⟨rfl, rfl, rfl, rfl⟩ := h2
    exact lv_iload hexec hb hd (hLr.2.2.2 _ _ h1) (kk _ _ _ _ _ hS0)
  case iload_n i =>
    have el : len = 1 := of_decide_eq_true hlen
    subst el
    obtain ⟨x, h1, h2⟩ := mldI_inv (show mldI ml i (fun v => some (pc + 1, ml, v :: st, hp)) = some (pc', ml', st', hp') from h)
    simp only [Option.some.injEq, Prod.mk.injEq] at h2
    obtain ⟨rfl, rfl, rfl, rfl⟩ := h2
    exact lv_iload_n hexec hb hd rfl (hLr.2.2.2 _ _ h1) (kk _ _ _ _ _ hS0)
  case aload i =>
    have el : len = 2 := of_decide_eq_true hlen
    subst el
    obtain ⟨x, h1, h2⟩ := mldA_inv (show mldA ml i (fun v => some (pc + 2, ml, v :: st, hp)) = some (pc', ml', st', hp') from h)
    simp only [Option.some.injEq, Prod.mk.injEq] at h2
    obtain ⟨rfl, rfl, rfl, rfl⟩ := h2
    exact lv_aload hexec hb hd (hLr.2.2.2 _ _ h1) (kk _ _ _ _ _ hS0)
  case aload_n i =>
    have el : len = 1 := of_decide_eq_true hlen
    subst el
    obtain ⟨x, h1, h2⟩ := mldA_inv (show mldA ml i (fun v => some (pc + 1, ml, v :: st, hp)) = some (pc', ml', st', hp') from h)
    simp only [Option.some.injEq, Prod.mk.injEq] at h2
    obtain ⟨rfl, rfl, rfl, rfl⟩ := h2
    exact lv_aload_n hexec hb hd rfl (hLr.2.2.2 _ _ h1) (kk _ _ _ _ _ hS0)
  case lload i =>
    have el : len = 2 := of_decide_eq_true hlen
    subst el
    obtain ⟨x, h1, h2⟩ := mldL_inv (show mldL ml i (fun v => some (pc + 2, ml, v :: st, hp)) = some (pc', ml', st', hp') from h)
    simp only [Option.some.injEq, Prod.mk.injEq] at h2
    obtain ⟨rfl, rfl, rfl, rfl⟩ := h2
    exact lv_lload hexec hb hd (hLr.2.2.2 _ _ h1) (kk _ _ _ _ _ hS0)
  case lload_n i =>
    have el : len = 1 := of_decide_eq_true hlen
    subst el
    obtain ⟨x, h1, h2⟩ := mldL_inv (show mldL ml i (fun v => some (pc + 1, ml, v :: st, hp)) = some (pc', ml', st', hp') from h)
    simp only [Option.some.injEq, Prod.mk.injEq] at h2
    obtain ⟨rfl, rfl, rfl, rfl⟩ := h2
    exact lv_lload_n hexec hb hd rfl (hLr.2.2.2 _ _ h1) (kk _ _ _ _ _ hS0)
  case istore i =>
    have el : len = 2 := of_decide_eq_true hlen
    subst el
    obtain ⟨x, rfl, h1, rfl, rfl⟩ := mstI_inv (show mstI (pc + 2) i ml st hp = _ from h)
    have hi : (i : Nat) < ml.length := by
      unfold mset1 at h1
      split at h1
      · assumption
      · cases h1
    exact lv_istore hexec hb hd hLr.has (Nat.lt_of_lt_of_le hi hLr.2.2.1) rfl fun ls' hl' => kk _ _ _ _ _ ⟨hH, hLr.st1 h1 hl', hloc, hcl, hsl, hrc, hrs, hmc, hms⟩
  case istore_n i =>
    have el : len = 1 := of_decide_eq_true hlen
    subst el
    obtain ⟨x, rfl, h1, rfl, rfl⟩ := mstI_inv (show mstI (pc + 1) i ml st hp = _ from h)
    have hi : (i : Nat) < ml.length := by
      unfold mset1 at h1
      split at h1
      · assumption
      · cases h1
    exact lv_istore_n hexec hb hd rfl hLr.has (Nat.lt_of_lt_of_le hi hLr.2.2.1) rfl fun ls' hl' => kk _ _ _ _ _ ⟨hH, hLr.st1 h1 hl', hloc, hcl, hsl, hrc, hrs, hmc, hms⟩
  case astore i =>
    have el : len = 2 := of_decide_eq_true hlen
    subst el
    obtain ⟨x, rfl, h1, rfl, rfl⟩ := mstA_inv (show mstA (pc + 2) i ml st hp = _ from h)
    have hi : (i : Nat) < ml.length := by
      unfold mset1 at h1
      split at h1
      · assumption
      · cases h1
    exact lv_astore hexec hb hd hLr.has (Nat.lt_of_lt_of_le hi hLr.2.2.1) rfl fun ls' hl' => kk _ _ _ _ _ ⟨hH, hLr.st1 h1 hl', hloc, hcl, hsl, hrc, hrs, hmc, hms⟩
  case astore_n i =>
    have el : len = 1 := of_decide_eq_true hlen
    subst el
    obtain ⟨x, rfl, h1, rfl, rfl⟩ := mstA_inv (show mstA (pc + 1) i ml st hp = _ from h)
    have hi : (i : Nat) < ml.length := by
      unfold mset1 at h1
      split at h1
      · assumption
      · cases h1
    exact lv_astore_n hexec hb hd rfl hLr.has (Nat.lt_of_lt_of_le hi hLr.2.2.1) rfl fun ls' hl' => kk _ _ _ _ _ ⟨hH, hLr.st1 h1 hl', hloc, hcl, hsl, hrc, hrs, hmc, hms⟩
  case lstore i =>
    have el : len = 2 := of_decide_eq_true hlen
    subst el
    obtain ⟨x, rfl, h1, rfl, rfl⟩ := mstL_inv (show mstL (pc + 2) i ml st hp = _ from h)
    have hi : (i : Nat) + 1 < ml.length := by
      unfold mset2 at h1
      split at h1
      · assumption
      · cases h1
    exact lv_lstore hexec hb hd hLr.has (Nat.lt_of_lt_of_le hi hLr.2.2.1) rfl fun ls' hl' => kk _ _ _ _ _ ⟨hH, hLr.st2 h1 hl', hloc, hcl, hsl, hrc, hrs, hmc, hms⟩
  case lstore_n i =>
    have el : len = 1 := of_decide_eq_true hlen
    subst el
    obtain ⟨x, rfl, h1, rfl, rfl⟩ := mstL_inv (show mstL (pc + 1) i ml st hp = _ from h)
    have hi : (i : Nat) + 1 < ml.length := by
      unfold mset2 at h1
      split at h1
      · assumption
      · cases h1
    exact lv_lstore_n hexec hb hd rfl hLr.has (Nat.lt_of_lt_of_le hi hLr.2.2.1) rfl fun ls' hl' => kk _ _ _ _ _ ⟨hH, hLr.st2 h1 hl', hloc, hcl, hsl, hrc, hrs, hmc, hms⟩
  case iinc i n =>
    have el : len = 3 := of_decide_eq_true hlen
    subst el
    obtain ⟨x, hx, h1, rfl, rfl, rfl⟩ := minc_inv (show minc (pc + 3) i n ml st hp = _ from h)
    have hi : i < ml.length := by
      unfold mset1 at h1
      split at h1
      · assumption
      · cases h1
    obtain ⟨q, hq⟩ := List.getElem?_of_mem (mas_in (b := gb G) (sz := gs G) (mget_eq hx))
    exact lv_iinc hexec hb hd hLr.has hq rfl (Nat.lt_of_lt_of_le hi hLr.2.2.1) rfl fun ls' hl' => kk _ _ _ _ _ ⟨hH, hLr.st1 h1 hl', hloc, hcl, hsl, hrc, hrs, hmc, hms⟩
  case iadd =>
    have el : len = 1 := of_decide_eq_true hlen
    subst el
    obtain ⟨x, y, r, rfl, rfl, rfl, rfl, rfl⟩ := mII_inv (pc := pc + 1) (show mII _ _ ml st hp = _ from h)
    exact lv_iadd hexec hb hd (kk _ _ _ _ _ hS0)
  case isub =>
    have el : len = 1 := of_decide_eq_true hlen
    subst el
    obtain ⟨x, y, r, rfl, rfl, rfl, rfl, rfl⟩ := mII_inv (pc := pc + 1) (show mII _ _ ml st hp = _ from h)
    exact lv_isub hexec hb hd (kk _ _ _ _ _ hS0)
  case imul =>
    have el : len = 1 := of_decide_eq_true hlen
    subst el
    obtain ⟨x, y, r, rfl, rfl, rfl, rfl, rfl⟩ := mII_inv (pc := pc + 1) (show mII _ _ ml st hp = _ from h)
    exact lv_imul hexec hb hd (kk _ _ _ _ _ hS0)
  case iand =>
    have el : len = 1 := of_decide_eq_true hlen
    subst el
    obtain ⟨x, y, r, rfl, rfl, rfl, rfl, rfl⟩ := mII_inv (pc := pc + 1) (show mII _ _ ml st hp = _ from h)
    exact lv_iand hexec hb hd (kk _ _ _ _ _ hS0)
  case ior =>
    have el : len = 1 := of_decide_eq_true hlen
    subst el
    obtain ⟨x, y, r, rfl, rfl, rfl, rfl, rfl⟩ := mII_inv (pc := pc + 1) (show mII _ _ ml st hp = _ from h)
    exact lv_ior hexec hb hd (kk _ _ _ _ _ hS0)
  case ixor =>
    have el : len = 1 := of_decide_eq_true hlen
    subst el
    obtain ⟨x, y, r, rfl, rfl, rfl, rfl, rfl⟩ := mII_inv (pc := pc + 1) (show mII _ _ ml st hp = _ from h)
    exact lv_ixor hexec hb hd (kk _ _ _ _ _ hS0)
  case ishl =>
    have el : len = 1 := of_decide_eq_true hlen
    subst el
    obtain ⟨x, y, r, rfl, rfl, rfl, rfl, rfl⟩ := mII_inv (pc := pc + 1) (show mII _ _ ml st hp = _ from h)
    exact lv_ishl hexec hb hd (kk _ _ _ _ _ hS0)
  case ishr =>
    have el : len = 1 := of_decide_eq_true hlen
    subst el
    obtain ⟨x, y, r, rfl, rfl, rfl, rfl, rfl⟩ := mII_inv (pc := pc + 1) (show mII _ _ ml st hp = _ from h)
    exact lv_ishr hexec hb hd (kk _ _ _ _ _ hS0)
  case iushr =>
    have el : len = 1 := of_decide_eq_true hlen
    subst el
    obtain ⟨x, y, r, rfl, rfl, rfl, rfl, rfl⟩ := mII_inv (pc := pc + 1) (show mII _ _ ml st hp = _ from h)
    exact lv_iushr hexec hb hd rfl (kk _ _ _ _ _ hS0)
  case idiv =>
    have el : len = 1 := of_decide_eq_true hlen
    subst el
    obtain ⟨x, y, r, rfl, h1, rfl, rfl, rfl, rfl⟩ := mdiv_inv (pc := pc + 1) (show mdiv _ ml st hp = _ from h)
    exact lv_idiv hexec hb hd h1 (kk _ _ _ _ _ hS0)
  case ineg =>
    have el : len = 1 := of_decide_eq_true hlen
    subst el
    obtain ⟨x, r, rfl, rfl, rfl, rfl, rfl⟩ := mI1_inv (pc := pc + 1) (show mI1 _ _ ml st hp = _ from h)
    exact lv_ineg hexec hb hd (kk _ _ _ _ _ hS0)
  case i2l =>
    have el : len = 1 := of_decide_eq_true hlen
    subst el
    obtain ⟨x, r, rfl, rfl, rfl, rfl, rfl⟩ := mI1_inv (pc := pc + 1) (show mI1 _ _ ml st hp = _ from h)
    exact lv_i2l hexec hb hd rfl (kk _ _ _ _ _ hS0)
  case l2i =>
    have el : len = 1 := of_decide_eq_true hlen
    subst el
    obtain ⟨x, r, rfl, rfl, rfl, rfl, rfl⟩ := mL1_inv (pc := pc + 1) (show mL1 _ _ ml st hp = _ from h)
    exact lv_l2i hexec hb hd rfl (kk _ _ _ _ _ hS0)
  case ladd =>
    have el : len = 1 := of_decide_eq_true hlen
    subst el
    obtain ⟨x, y, r, rfl, rfl, rfl, rfl, rfl⟩ := mLL_inv (pc := pc + 1) (show mLL _ _ ml st hp = _ from h)
    exact lv_ladd hexec hb hd (kk _ _ _ _ _ hS0)
  case lsub =>
    have el : len = 1 := of_decide_eq_true hlen
    subst el
    obtain ⟨x, y, r, rfl, rfl, rfl, rfl, rfl⟩ := mLL_inv (pc := pc + 1) (show mLL _ _ ml st hp = _ from h)
    exact lv_lsub hexec hb hd (kk _ _ _ _ _ hS0)
  case lcmp =>
    have el : len = 1 := of_decide_eq_true hlen
    subst el
    obtain ⟨x, y, r, rfl, rfl, rfl, rfl, rfl⟩ := mcmpL_inv (pc := pc + 1) (show mcmpL _ ml st hp = _ from h)
    exact W.lcmp hexec hb hd (kk _ _ _ _ _ hS0)
  case dup =>
    have el : len = 1 := of_decide_eq_true hlen
    subst el
    obtain ⟨v, r, rfl, h1, rfl, rfl, rfl, rfl⟩ := mdup_inv (pc := pc + 1) (show mdup _ ml st hp = _ from h)
    exact lv_dup hexec hb hd (by rw [mcv_cat]; exact h1) (kk _ _ _ _ _ hS0)
  case pop =>
    have el : len = 1 := of_decide_eq_true hlen
    subst el
    obtain ⟨v, r, rfl, h1, rfl, rfl, rfl, rfl⟩ := mpop_inv (pc := pc + 1) (show mpop _ ml st hp = _ from h)
    exact lv_pop hexec hb hd (by rw [mcv_cat]; exact h1) (kk _ _ _ _ _ hS0)
  case dup_x1 =>
    have el : len = 1 := of_decide_eq_true hlen
    subst el
    obtain ⟨v, w, r, rfl, h1, rfl, rfl, rfl, rfl⟩ := mdupx_inv (pc := pc + 1) (show mdupx _ ml st hp = _ from h)
    exact lv_dup_x1 hexec hb hd (by rw [mcv_cat]; exact h1.1) (by rw [mcv_cat]; exact h1.2) (kk _ _ _ _ _ hS0)
  case dup2 =>
    have el : len = 1 := of_decide_eq_true hlen
    subst el
    obtain ⟨v, w, r, rfl, h1, rfl, rfl, rfl, rfl⟩ := mdup2_inv (pc := pc + 1) (show mdup2 _ ml st hp = _ from h)
    exact lv_dup2_11 hexec hb hd (by rw [mcv_cat]; exact h1.1) (by rw [mcv_cat]; exact h1.2) (kk _ _ _ _ _ hS0)
  case goto off =>
    have el : len = 3 := of_decide_eq_true hlen
    subst el
    obtain ⟨h1, rfl, rfl, rfl⟩ := mjmp_inv (show mjmp pc off ml st hp = _ from h)
    exact lv_goto hexec hb hd h1 (kk _ _ _ _ _ hS0)
  case ifCond cnd off =>
    have el : len = 3 := of_decide_eq_true hlen
    subst el
    obtain ⟨x, t, rfl, ht, rfl, rfl, hcs⟩ := mif_inv (show mif cnd pc off ml st hp = _ from h)
    rcases hcs with ⟨hc, rfl⟩ | ⟨hc, rfl⟩
    · have k1 := kk _ _ _ _ _ hS0
      cases cnd
      case eq => exact lv_if_eq hexec hb hd ht (fun _ => k1) (fun hn => absurd (of_decide_eq_true hc) hn)
      case ne => exact lv_if_ne hexec hb hd ht (fun _ => k1) (fun hn => absurd hn (of_decide_eq_true hc))
      case lt => exact lv_if_lt hexec hb hd ht (fun _ => k1) (fun hn => absurd (of_decide_eq_true hc) hn)
      case ge => exact lv_if_ge hexec hb hd ht (fun _ => k1) (fun hn => absurd (of_decide_eq_true hc) hn)
      case gt => exact lv_if_gt hexec hb hd ht (fun _ => k1) (fun hn => absurd (of_decide_eq_true hc) hn)
      case le => exact lv_if_le hexec hb hd ht (fun _ => k1) (fun hn => absurd (of_decide_eq_true hc) hn)
    · have k2 := kk _ _ _ _ _ hS0
      cases cnd
      case eq => exact lv_if_eq hexec hb hd ht (fun hn => absurd (decide_eq_true hn) hc) (fun _ => k2)
      case ne => exact lv_if_ne hexec hb hd ht (fun hn => absurd (decide_eq_true hn) hc) (fun _ => k2)
      case lt => exact lv_if_lt hexec hb hd ht (fun hn => absurd (decide_eq_true hn) hc) (fun _ => k2)
      case ge => exact lv_if_ge hexec hb hd ht (fun hn => absurd (decide_eq_true hn) hc) (fun _ => k2)
      case gt => exact lv_if_gt hexec hb hd ht (fun hn => absurd (decide_eq_true hn) hc) (fun _ => k2)
      case le => exact lv_if_le hexec hb hd ht (fun hn => absurd (decide_eq_true hn) hc) (fun _ => k2)
  case if_icmp cnd off =>
    have el : len = 3 := of_decide_eq_true hlen
    subst el
    obtain ⟨x, y, t, rfl, ht, rfl, rfl, hcs⟩ := micmp_inv (show micmp cnd pc off ml st hp = _ from h)
    rcases hcs with ⟨hc, rfl⟩ | ⟨hc, rfl⟩
    · have k1 := kk _ _ _ _ _ hS0
      cases cnd
      case eq => exact lv_icmp_eq hexec hb hd ht (fun _ => k1) (fun hn => absurd (of_decide_eq_true hc) hn)
      case ne => exact lv_icmp_ne hexec hb hd ht (fun _ => k1) (fun hn => absurd hn (of_decide_eq_true hc))
      case lt => exact lv_icmp_lt hexec hb hd ht (fun _ => k1) (fun hn => absurd (of_decide_eq_true hc) hn)
      case ge => exact lv_icmp_ge hexec hb hd ht (fun _ => k1) (fun hn => absurd (of_decide_eq_true hc) hn)
      case gt => exact lv_icmp_gt hexec hb hd ht (fun _ => k1) (fun hn => absurd (of_decide_eq_true hc) hn)
      case le => exact lv_icmp_le hexec hb hd ht (fun _ => k1) (fun hn => absurd (of_decide_eq_true hc) hn)
    · have k2 := kk _ _ _ _ _ hS0
      cases cnd
      case eq => exact lv_icmp_eq hexec hb hd ht (fun hn => absurd (decide_eq_true hn) hc) (fun _ => k2)
      case ne => exact lv_icmp_ne hexec hb hd ht (fun hn => absurd (decide_eq_true hn) hc) (fun _ => k2)
      case lt => exact lv_icmp_lt hexec hb hd ht (fun hn => absurd (decide_eq_true hn) hc) (fun _ => k2)
      case ge => exact lv_icmp_ge hexec hb hd ht (fun hn => absurd (decide_eq_true hn) hc) (fun _ => k2)
      case gt => exact lv_icmp_gt hexec hb hd ht (fun hn => absurd (decide_eq_true hn) hc) (fun _ => k2)
      case le => exact lv_icmp_le hexec hb hd ht (fun hn => absurd (decide_eq_true hn) hc) (fun _ => k2)
  case tableswitch d lo hi offs =>
    obtain ⟨x, rfl, rfl, rfl, hcs⟩ := mtab_inv (show mtab d lo hi offs pc ml st hp = _ from h)
    rcases hcs with ⟨h1, h2⟩ | ⟨h1, h2, off, h3, h4⟩
    · exact lv_tableOut hexec hb hd h1 h2 (kk _ _ _ _ _ hS0)
    · exact lv_tableIn hexec hb hd h1 h2 h3 h4 (kk _ _ _ _ _ hS0)
  case getfield i =>
    have el : len = 3 := of_decide_eq_true hlen
    subst el
    obtain ⟨a, r, ci, k, fs, v, rfl, h1, h2, h3, rfl, rfl, rfl, rfl⟩ := mgetf_inv (show mgetf P o i (pc + 3) ml st hp = _ from h)
    exact mr_get hexec hb hw oF oK hK hH hown h1 h2 h3 hd (kk _ _ _ _ _ hS0)
  case putfield i =>
    have el : len = 3 := of_decide_eq_true hlen
    subst el
    obtain ⟨a, v, ci, k, fs, rfl, h1, h2, h3, h4, h5, rfl, rfl, rfl⟩ := mputf_inv (show mputf P ini o i (pc + 3) ml st hp = _ from h)
    exact mr_put hexec hb hw oF oK hK hH hini hown h1 h2 h3 h4 h5 hd hloc fun H' locs' hH' hl' => kk _ _ _ _ _ ⟨hH', hLr, hl', hcl, hsl, hrc, hrs, hmc, hms⟩
  case iaload =>
    have el : len = 1 := of_decide_eq_true hlen
    subst el
    obtain ⟨a, j, r, ty, n, f, rfl, h1, h2, h3, rfl, rfl, rfl, rfl⟩ := miald_inv (show miald (pc + 1) ml st hp = _ from h)
    exact mr_iald hexec hb hK hH h1 h2 h3 hd (kk _ _ _ _ _ hS0)
  case iastore =>
    have el : len = 1 := of_decide_eq_true hlen
    subst el
    obtain ⟨a, j, x, n, f, rfl, h1, h2, rfl, rfl, rfl⟩ := miast_inv (show miast (pc + 1) ml st hp = _ from h)
    exact mr_iast hexec hb hK hH h1 h2 hd hloc fun H' locs' hH' hl' => kk _ _ _ _ _ ⟨hH', hLr, hl', hcl, hsl, hrc, hrs, hmc, hms⟩
  case laload =>
    have el : len = 1 := of_decide_eq_true hlen
    subst el
    obtain ⟨a, j, r, n, f, rfl, h1, h2, rfl, rfl, rfl, rfl⟩ := mlald_inv (show mlald (pc + 1) ml st hp = _ from h)
    exact mr_lald hexec hb hK hH h1 h2 hd (kk _ _ _ _ _ hS0)
  case lastore =>
    have el : len = 1 := of_decide_eq_true hlen
    subst el
    obtain ⟨a, j, x, n, f, rfl, h1, h2, rfl, rfl, rfl⟩ := mlast_inv (show mlast (pc + 1) ml st hp = _ from h)
    exact mr_last hexec hb hK hH h1 h2 hd hloc fun H' locs' hH' hl' => kk _ _ _ _ _ ⟨hH', hLr, hl', hcl, hsl, hrc, hrs, hmc, hms⟩
  case aaload =>
    have el : len = 1 := of_decide_eq_true hlen
    subst el
    obtain ⟨a, j, r, C, n, f, v, rfl, h1, h2, h3, rfl, rfl, rfl, rfl⟩ := maald_inv (show maald (pc + 1) ml st hp = _ from h)
    exact mr_aald hexec hb hK hH h1 h2 h3 hd (kk _ _ _ _ _ hS0)
  case aastore =>
    have el : len = 1 := of_decide_eq_true hlen
    subst el
    obtain ⟨a, j, v, n, f, ci, vs, rfl, h1, h2, h3, rfl, rfl, rfl⟩ := maast_inv (show maast P (pc + 1) ml st hp = _ from h)
    exact mr_aast hexec hb oK hK hH h1 h2 h3 hd hloc fun H' locs' hH' hl' => kk _ _ _ _ _ ⟨hH', hLr, hl', hcl, hsl, hrc, hrs, hmc, hms⟩
  case arraylength =>
    have el : len = 1 := of_decide_eq_true hlen
    subst el
    obtain ⟨a, r, ty, x, rfl, h1, h2, rfl, rfl, rfl, rfl⟩ := malen_inv (show malen (pc + 1) ml st hp = _ from h)
    exact mr_alen hexec hb hK hH h1 h2 hd (kk _ _ _ _ _ hS0)
  case newarray t =>
    have el : len = 2 := of_decide_eq_true hlen
    subst el
    obtain ⟨n, r, a0, rfl, h1, h2, h3, h4, h5, rfl, rfl, rfl, rfl⟩ := mnewa_inv (show mnewa CM SM _ (pc + 2) ml st hp = _ from h)
    rcases h5 with ⟨hty, rfl⟩ | ⟨hty, rfl⟩
    · refine mr_newa (ty := .int) (a0 := (n.toNatClampNeg, .inl fun _ => 0)) hexec hb (by rw [hty]; exact hw _ oA.2.1) hK hH hty oA.2.2.2.1 (fun q => q) (fun cA => rfl) h1 (by show _ * 4 ≤ _; omega) (by omega) (by omega) hd fun H' hH' => ?_
      have k1 := kk H' locs (cells + 1) (slots + n.toNatClampNeg) ls
      rw [hty] at k1
      exact k1 ⟨hH', hLr, hloc, by show _ = gs G + (hp.1 + 1); omega, by show _ = hp.2.1 + _; omega, by show cells + 1 + (CM - (hp.1 + 1)) ≤ _; omega, by show slots + n.toNatClampNeg + (SM - (hp.2.1 + n.toNatClampNeg)) ≤ _; omega, by show hp.1 + 1 ≤ CM; omega, by show hp.2.1 + n.toNatClampNeg ≤ SM; omega⟩
    · refine mr_newa (ty := .long) (a0 := (n.toNatClampNeg, .inr (.inl fun _ => 0))) hexec hb (by rw [hty]; exact hw _ oA.2.2.1) hK hH hty oA.2.2.2.2 (fun q => q) (fun cA => rfl) h1 (by show _ * 8 ≤ _; omega) (by omega) (by omega) hd fun H' hH' => ?_
      have k1 := kk H' locs (cells + 1) (slots + n.toNatClampNeg) ls
      rw [hty] at k1
      exact k1 ⟨hH', hLr, hloc, by show _ = gs G + (hp.1 + 1); omega, by show _ = hp.2.1 + _; omega, by show cells + 1 + (CM - (hp.1 + 1)) ≤ _; omega, by show slots + n.toNatClampNeg + (SM - (hp.2.1 + n.toNatClampNeg)) ≤ _; omega, by show hp.1 + 1 ≤ CM; omega, by show hp.2.1 + n.toNatClampNeg ≤ SM; omega⟩
  case anewarray i =>
    have el : len = 3 := of_decide_eq_true hlen
    subst el
    obtain ⟨n, r, C, rfl, h0, h1, h2, h3, h4, rfl, rfl, rfl, rfl⟩ := manew_inv (show manew P CM SM o i (pc + 3) ml st hp = _ from h)
    obtain ⟨w1, w2, w3⟩ := oA.1 _ _ _ h0
    refine mr_anew hexec hb hown (hw _ w1) (hw _ w2) hK hH w3 h1 (by omega) (by omega) (by omega) hd fun H' hH' => ?_
    exact kk H' locs (cells + 1) (slots + n.toNatClampNeg) ls ⟨hH', hLr, hloc, by show _ = gs G + (hp.1 + 1); omega, by show _ = hp.2.1 + _; omega, by show cells + 1 + (CM - (hp.1 + 1)) ≤ _; omega, by show slots + n.toNatClampNeg + (SM - (hp.2.1 + n.toNatClampNeg)) ≤ _; omega, by show hp.1 + 1 ≤ CM; omega, by show hp.2.1 + n.toNatClampNeg ≤ SM; omega⟩
  case new i =>
    have el : len = 3 := of_decide_eq_true hlen
    subst el
    obtain ⟨ci, k, fs, h0, h3, h4, rfl, rfl, rfl, rfl⟩ := mnew_inv (show mnew P CM SM o i (pc + 3) ml st hp = _ from h)
    obtain ⟨C, T, w0, w1, w2, w3, w4, w5⟩ := oN _ _ _ _ _ h0
    refine mr_new (P := P) hexec hb hw oK hown (hw _ w1) (hw _ w2) (hw _ w3) hK hH w0 w4 (w5 _ _) (by omega) (by omega) hd fun H' hH' => ?_
    exact kk H' locs (cells + 1) (slots + k) ls ⟨hH', hLr, hloc, by show _ = gs G + (hp.1 + 1); omega, by show _ = hp.2.1 + _; omega, by show cells + 1 + (CM - (hp.1 + 1)) ≤ _; omega, by show slots + k + (SM - (hp.2.1 + k)) ≤ _; omega, by show hp.1 + 1 ≤ CM; omega, by show hp.2.1 + k ≤ SM; omega⟩
  all_goals exact absurd h (fun h => by cases h)
