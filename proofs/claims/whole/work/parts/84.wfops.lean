/-! Well-formed disks: append, retain. -/
theorem upl_id {α : Type} (F : Nat → α) (l : Nat) : upl F l (F l) = F := by
  funext y
  unfold upl
  by_cases h : y = l
  · rw [if_pos h, h]
  · rw [if_neg h]
theorem ap_WFD {S S' : DS} {F : Nat → Nat → Nat} {bc c N f' : Nat → Nat} {l cn' : Nat} {p q : Int32} {x : List R5} (h : WFD (dD S) F bc c N) (hon : dO S = false) (hl : l < 4) (hx1 : 1 ≤ x.length) (hx4 : x.length ≤ 4) (hgd : ∀ r ∈ x, gd r) (hnum : ∀ k, k < x.length → (gR x k).1 = nI (N l + k)) (hkey : l = 3 → ∀ r ∈ x, ∃ y, y < 32 ∧ r.2.2.1 = nI y) (hN : N l + 4 < 2 ^ 31) (ha : apS S l (F l) (c l) (N l) p q x = some (S', f', cn')) :
    (dO S' = false → ∃ bc', WFD (dD S') (upl F l f') bc' (upl c l cn') (upl N l (N l + x.length))) ∧ (dO S' = true → ∃ F' bc' c', WFD (dD S') F' bc' c' N) := by
  have eN : (fun y => if y = l then N y + x.length else N y) = upl N l (N l + x.length) := by
    funext y
    unfold upl
    by_cases e : y = l
    · rw [if_pos e, if_pos e, e]
    · rw [if_neg e, if_neg e]
  unfold apS at ha
  by_cases hfit : 0 < c l ∧ mB (dD S) (F l (c l - 1)) + (eBt (nI (bB (dD S) (F l (c l - 1)))) p q x).length ≤ 128
  · rw [if_pos hfit] at ha
    have e := Option.some.inj ha
    have e1 : S' = wrs S (apW (F l (c l - 1)) (mB (dD S) (F l (c l - 1))) (eBt (nI (bB (dD S) (F l (c l - 1)))) p q x)) := (congrArg Prod.fst e).symm
    have e2 : f' = F l := (congrArg (fun z => z.2.1) e).symm
    have e3 : cn' = c l := (congrArg (fun z => z.2.2) e).symm
    refine ⟨fun o => ?_, fun o => ?_⟩
    · rw [e1] at o
      rw [e1, (wrs_on o).2, e2, e3, upl_id, upl_id, ← eN]
      exact ⟨_, WFD_add h hl hfit.1 hx1 hx4 hgd hnum hkey (by omega) hfit.2⟩
    · rw [e1] at o
      obtain ⟨k, hk, ek⟩ := wrs_pre hon o
      rw [e1, ek]
      exact ⟨F, bc, c, WFD_pre h hl hfit.1 hfit.2 hk⟩
  · rw [if_neg hfit] at ha
    by_cases hfr : frS (dD S) 16 0 = -1
    · rw [if_pos hfr] at ha
      exact absurd ha (by simp)
    · rw [if_neg hfr] at ha
      obtain ⟨r, hr⟩ : ∃ r, r = frN (dD S) 16 0 := ⟨_, rfl⟩
      rw [← hr] at ha
      have hrr : r < 16 ∧ oB (dD S) r = 0 := by
        rw [hr]
        rcases frN_spec (dD S) 16 0 with h5 | h5
        · exact absurd h5.1 hfr
        · exact ⟨by omega, h5.2.2.2⟩
      have e := Option.some.inj ha
      have e1 : S' = wrs S (hdW r l (N l) :: apW r 8 (eBt (nI (N l)) p q x)) := (congrArg Prod.fst e).symm
      have e2 : f' = (fun k => if k = c l then r else F l k) := (congrArg (fun z => z.2.1) e).symm
      have e3 : cn' = c l + 1 := (congrArg (fun z => z.2.2) e).symm
      have hlen := eBt_len (nI (N l)) p q x
      have hne : 0 < c l → ¬ sRs (dD S) (F l (c l - 1)) (bc (F l (c l - 1))) = [] := fun hc => by
        have hW := (h.1 l hl).2.1 (c l - 1) (by omega)
        refine bc_ne hW ?_
        have h1 : ¬ mB (dD S) (F l (c l - 1)) + (eBt (nI (bB (dD S) (F l (c l - 1)))) p q x).length ≤ 128 := fun w => hfit ⟨hc, w⟩
        have h2 := eBt_len (nI (bB (dD S) (F l (c l - 1)))) p q x
        rcases Nat.eq_zero_or_pos (bc (F l (c l - 1))) with h3 | h3
        · have h4 := WS_end hW
          rw [h3] at h4
          have h5 : sb (dD S) (F l (c l - 1)) 0 = 128 * F l (c l - 1) + 8 := rfl
          omega
        · exact h3
      have hh := WFD_hd h hl hrr.1 hrr.2 (by omega) hne
      obtain ⟨D1, hD1⟩ : ∃ D1, D1 = dW (dD S) (128 * r) 32 (gB0 (hdr 8 (l + 1) 0 (N l))) := ⟨_, rfl⟩
      rw [← hD1] at hh
      have hlast : upl F l (fun k => if k = c l then r else F l k) l (upl c l (c l + 1) l - 1) = r := by
        rw [upl_s, upl_s, Nat.add_sub_cancel, if_pos rfl]
      have hcl : 0 < upl c l (c l + 1) l := by
        rw [upl_s]
        omega
      refine ⟨fun o => ?_, fun o => ?_⟩
      · rw [e1] at o
        have hd : dD (wrs S (hdW r l (N l) :: apW r 8 (eBt (nI (N l)) p q x))) = dWs D1 (apW r 8 (eBt (nI (N l)) p q x)) := by
          rw [(wrs_on o).2, hD1]
          rfl
        have h9 := WFD_add (p := p) (q := q) (x := x) hh.1 hl hcl hx1 hx4 hgd hnum hkey (by omega) (by rw [hlast, hh.2.1, hh.2.2]; omega)
        rw [hlast, hh.2.1, hh.2.2] at h9
        rw [e1, hd, e2, e3, ← eN]
        exact ⟨_, h9⟩
      · rw [e1] at o
        obtain ⟨k, hk, ek⟩ := wrs_pre hon o
        rw [e1, ek]
        cases k with
        | zero => exact ⟨F, bc, c, h⟩
        | succ k =>
          have hk' : k < (apW r 8 (eBt (nI (N l)) p q x)).length := Nat.lt_of_succ_lt_succ hk
          have h9 := WFD_pre (t := eBt (nI (N l)) p q x) (j := k) hh.1 hl hcl (by rw [hlast, hh.2.1]; omega) (by rw [hlast, hh.2.1]; exact hk')
          rw [hlast, hh.2.1] at h9
          have hd : dWs (dD S) ((hdW r l (N l) :: apW r 8 (eBt (nI (N l)) p q x)).take (k + 1)) = dWs D1 ((apW r 8 (eBt (nI (N l)) p q x)).take k) := by
            rw [List.take_succ_cons, hD1]
            rfl
          rw [hd]
          exact ⟨_, _, _, h9⟩
/-- a slot of log l is let go -/
theorem WFD_rm {D : Nat → Nat} {F : Nat → Nat → Nat} {bc c N : Nat → Nat} {l i : Nat} (h : WFD D F bc c N) (hl : l < 4) (hi : i + 1 < c l) : WFD (ow0 D (F l i)) (upl F l (rmF (F l) i)) bc (upl c l (c l - 1)) N := by
  have hfi := (h.1 l hl).1.1 i (by omega)
  refine ⟨fun y hy => ?_, fun t ht => ?_⟩
  · by_cases e : y = l
    · subst e
      rw [upl_s, upl_s]
      exact WL_cl_rm (h.1 y hy) hi
    · rw [upl_n e, upl_n e]
      refine WL_same (h.1 y hy) (fun t ht => ?_) (fun t ht hto => ow_SmS _)
      rw [ow0_o]
      by_cases e2 : t = F l i
      · rw [if_pos e2, e2, hfi.2.1]
        omega
      · rw [if_neg e2]
  · rw [ow0_o]
    split
    · omega
    · exact h.2 t ht
theorem rmF_0 (f : Nat → Nat) : rmF f 0 = sh f := by
  funext k
  exact if_neg (Nat.not_lt_zero k)
theorem upl_upl {α : Type} (F : Nat → α) (l : Nat) (x y : α) : upl (upl F l x) l y = upl F l y := by
  funext z
  unfold upl
  by_cases h : z = l
  · rw [if_pos h, if_pos h]
  · rw [if_neg h, if_neg h, if_neg h]
theorem wr_due {S : DS} {x : WI} (h : dO S = false) (ho : dO (wr1 S x) = true) : dD (wr1 S x) = dD S := by
  have hc : dC S = some 0 := by
    refine Decidable.byContradiction (fun w => ?_)
    rw [wr1_on _ h w] at ho
    exact Bool.noConfusion ho
  rw [wr1_due x h hc]
  rfl
/-- retain keeps the disk well-formed, also where it is cut off -/
theorem rt_WFD {lim : Int64} {l : Nat} (hl : l < 4) {bc N : Nat → Nat} : ∀ (z : Nat) {S : DS} {F : Nat → Nat → Nat} {c : Nat → Nat} {g : Nat}, WFD (dD S) F bc c N → dO S = false → ∀ R, R = rt lim bc z S (F l) (c l) g → (dO R.1 = false → WFD (dD R.1) (upl F l R.2.1) bc (upl c l R.2.2.1) N) ∧ (dO R.1 = true → ∃ F' c', WFD (dD R.1) F' bc c' N)
  | 0, S, F, c, g, h, ho, R, hR => by
    subst hR
    refine ⟨fun _ => ?_, fun q => ?_⟩
    · show WFD (dD S) (upl F l (F l)) bc (upl c l (c l)) N
      rw [upl_id, upl_id]
      exact h
    · exact ⟨F, c, h⟩
  | z + 1, S, F, c, g, h, ho, R, hR => by
    by_cases hc : go (dD S) (F l) bc (c l) lim = true ∧ dO S = false
    · have e : rt lim bc (z + 1) S (F l) (c l) g = rt lim bc z (wr1 S (owW (F l 0) 0)) (sh (F l)) (c l - 1) (g + 1) := if_pos hc
      have h1n := go_1 hc.1
      rw [e] at hR
      by_cases hw : dO (wr1 S (owW (F l 0) 0)) = true
      · rw [rt_off hw] at hR
        subst hR
        refine ⟨fun q => Bool.noConfusion (q.symm.trans hw), fun _ => ⟨F, c, ?_⟩⟩
        show WFD (dD (wr1 S (owW (F l 0) 0))) F bc c N
        rw [wr_due ho hw]
        exact h
      · have hw' := ne_true hw
        have h1 := WFD_rm h hl (i := 0) (by omega)
        rw [rmF_0] at h1
        have eD : dD (wr1 S (owW (F l 0) 0)) = ow0 (dD S) (F l 0) := (wr1_D hw').2
        rw [← eD] at h1
        have ih := rt_WFD hl z (S := wr1 S (owW (F l 0) 0)) (F := upl F l (sh (F l))) (c := upl c l (c l - 1)) (g := g + 1) (lim := lim) h1 hw' R (by rw [upl_s, upl_s]; exact hR)
        rw [upl_upl, upl_upl] at ih
        exact ih
    · have e : rt lim bc (z + 1) S (F l) (c l) g = (S, F l, c l, g) := if_neg hc
      rw [e] at hR
      subst hR
      refine ⟨fun _ => ?_, fun q => ⟨F, c, h⟩⟩
      show WFD (dD S) (upl F l (F l)) bc (upl c l (c l)) N
      rw [upl_id, upl_id]
      exact h
/-- a slot of log l is moved -/
theorem WFD_mv {D : Nat → Nat} {F : Nat → Nat → Nat} {bc c N : Nat → Nat} {l i r : Nat} {P : Nat → Nat → Bool} (h : WFD D F bc c N) (hl : l < 4) (hi : i + 1 < c l) (hr : r < 16) (hr0 : oB D r = 0) (h8 : ¬ (cF D (F l i) P (bc (F l i))).length = 8) (h128 : (cF D (F l i) P (bc (F l i))).length ≤ 128) : WFD (dWs D (mvW r l (F l i) (cF D (F l i) P (bc (F l i))))) (upl F l (fun k => if k = i then r else F l k)) (fun x => if x = r then cC D (F l i) P (bc (F l i)) else bc x) c N := by
  have hfi := (h.1 l hl).1.1 i (by omega)
  have hne : ¬ r = F l i := fun q => by
    rw [q, hfi.2.1] at hr0
    omega
  have hm := mv_D (D := D) (l := l) (t := cF D (F l i) P (bc (F l i))) hr hfi.1 hne hl h128
  refine ⟨fun y hy => ?_, fun t ht => ?_⟩
  · by_cases e : y = l
    · subst e
      rw [upl_s]
      exact WL_cl_mv (h.1 y hy) hl hi hr hr0 h8 h128
    · rw [upl_n e]
      have hWy := h.1 y hy
      have hn : ∀ k, k < c y → ¬ F y k = r := fun k hk q => by
        have h9 := (hWy.1.1 k hk).2.1
        rw [q, hr0] at h9
        omega
      refine WL_bc (WL_same hWy (fun t ht => ?_) (fun t ht hto x hx h2 _ => hm.2.2.2.2 t ht (fun q => ?_) x hx h2)) (fun k hk => if_neg (hn k hk))
      · by_cases e1 : t = r
        · rw [e1, hm.2.1, hr0]
          omega
        · by_cases e2 : t = F l i
          · rw [e2, hm.2.2.1, hfi.2.1]
            omega
          · rw [hm.2.2.2.1 t ht e2 e1]
      · rw [q, hr0] at hto
        omega
  · by_cases e1 : t = r
    · rw [e1, hm.2.1]
      omega
    · by_cases e2 : t = F l i
      · rw [e2, hm.2.2.1]
        omega
      · rw [hm.2.2.2.1 t ht e2 e1]
        exact h.2 t ht
