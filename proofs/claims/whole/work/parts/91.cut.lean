/-! cut keeps what holds. -/
theorem INV_S {k : Nat} {S S' : DS} {I I' : Nat → Int32} {A : Nat → Nat → Int32} {mk sn : Nat} (h : INV k S I A mk sn) (f : Fr [1, 2, 60, 63] I I') (rk : rgK S' I') (rm : rgM S' I') (hd : dD S' = dD S) (ho : dO S' = dO S) : INV (k + 1) S' I' A mk sn := by
  obtain ⟨⟨k1, k2⟩, ⟨m1, m2⟩, hm, ⟨l, l4, lg, lB, l64, lT⟩, ⟨fl, f1, f2, f3⟩, h11, h53, hon, hoff⟩ := h
  refine ⟨⟨rk, by rw [hd]; exact k2⟩, ⟨rm, by rw [hd]; exact m2⟩, hm, ⟨l, l4, lg, ?_, (f 64 (by decide)).trans l64, lT⟩, ⟨fl, f1, FC_fr f2 f (Fr_refl [] A) (by decide) (by decide) (by decide) (by decide) (by decide) (by decide), FM_fr2 f3 f (Fr_refl [] A) (by decide) (by decide)⟩, ((f 11 (by decide)).trans h11).trans (f 70 (by decide)).symm, h53, fun q => ?_, fun q => ?_⟩
  · rcases hm with ⟨e, _⟩ | ⟨e, _⟩
    · subst e
      exact ⟨(f 28 (by decide)).trans lB.1, lB.2⟩
    · subst e
      exact ⟨(f 31 (by decide)).trans lB.1, lB.2⟩
  · obtain ⟨F, bc, c, N, hO⟩ := hon (ho ▸ q)
    have h1 := ON_fr (k' := k + 1) (I' := I') (A' := A) hO (Nat.le_succ k) f (Fr_refl [] A) (fun r h1 h2 => by simp; omega) ⟨fun r _ _ => by simp, by decide, by decide, by decide⟩
    refine ⟨F, bc, c, N, ?_⟩
    unfold ON at h1 ⊢
    rw [hd]
    exact h1
  · obtain ⟨o1, o2, D1, w, F, bc, c, N, r1, r2, r3⟩ := hoff (ho ▸ q)
    exact ⟨offK_fr o1 f (Fr_refl [] A) ⟨by decide, by decide, fun r h1 h2 => by simp; omega⟩ ⟨fun r _ _ => by simp, by decide⟩, offM_fr o2 f (Fr_refl [] A) (by decide) (by decide), D1, w, F, bc, c, N, by rw [hd]; exact r1, r2, fun l hl => by have := r3 l hl; omega⟩
theorem nneg {a : Int32} (h : ¬ a < 0) : ∃ m, m < 2 ^ 31 ∧ a = nI m := by
  refine ⟨uN a, ?_, (nI_uN a).symm⟩
  have h1 := Int32.le_iff_toInt_le.mp (Int32.not_lt.mp h)
  have h2 : (0 : Int32).toInt = 0 := rfl
  rw [h2, show a.toInt = a.toBitVec.toInt from rfl, BitVec.toInt_eq_toNat_cond] at h1
  have h6 := a.toBitVec.isLt
  unfold uN
  split at h1
  · omega
  · omega
section S91
variable {n u : Nat} {I : Nat → Int32} {A : Nat → Nat → Int32} {J : Int64} {B : Nat → Int64} {mk sn L : Nat} {xs : Nat → Int32} {X : Nat → mC} {D : Nat → Nat} {S : DS} {k : Nat}
set_option maxRecDepth 100000 in
set_option maxHeartbeats 4000000 in
theorem op_cut (h : INV k S I A mk sn) (a : Int32) : mq 14 0 [some (.ref 1), some (.int a)] [] (hS n u I A J B mk sn L xs X) (two 153 [some (.ref 67), some (.int a)] (k + 1) n u J B L xs X) := by
  have k1 := h.1.1
  have m1 := h.2.1.1
  refine k_14 (on := onN S) k1.1 (onN_le S) a (fun ha ho => ?_) (fun hx => ?_)
  · have hoS : dO S = false := ne_true (fun q => by unfold onN at ho; rw [if_pos q] at ho; exact absurd ho (by decide))
    obtain ⟨m, hm, em⟩ := nneg ha
    refine ⟨nI 1, _, A, mk, sn, rfl, ?_⟩
    refine k_153 (I := va_up (va_up I 1 (nI 1)) 2 a) (on := onN S) ((show (va_up (va_up I 1 (nI 1)) 2 a) 61 = I 61 from rfl).trans (onN_61 m1)) (onN_le S) a (fun _ _ => ?_) (fun hx => ?_)
    · refine ⟨dS (dD S) (some m) (dN S) false, va_up (va_up (va_up (va_up I 1 (nI 1)) 2 a) 60 (nI 0)) 63 a, A, rfl, INV_S h (Fr_u (Fr_u (Fr_u (Fr_u (Fr_refl _ I) (by decide)) (by decide)) (by decide)) (by decide)) ⟨?_, fun _ => ⟨rfl, em, hm⟩, k1.2.2⟩ ⟨?_, ⟨em, hm⟩, m1.2.2⟩ rfl hoS.symm⟩
      · show I 0 = _
        rw [k1.1, hoS]
        rfl
      · show I 61 = _
        rw [m1.1, hoS]
        rfl
    · rcases hx with h1 | h1
      · exact absurd h1 ha
      · rw [ho] at h1
        exact absurd h1 (by decide)
  · refine ⟨nI 0, I, A, mk, sn, rfl, ?_⟩
    refine k_153 (on := onN S) (onN_61 m1) (onN_le S) a (fun ha ho => ?_) (fun _ => ⟨S, _, A, rfl, INV_60 h _⟩)
    rcases hx with h1 | h1
    · exact absurd h1 ha
    · rw [ho] at h1
      exact absurd h1 (by decide)
end S91
