/-! The reader's leaves; records. -/
/-- a number of up to five bytes from place q on: its value, how many bytes -/
def vX (D : Nat → Nat) : Nat → Nat → Nat → Int32 → Int32
  | 0, _, _, x => x
  | f + 1, q, s, x => if D q < 128 then x ||| ((nI (D q) &&& 127) <<< (nI s &&& 31)) else vX D f (q + 1) (s + 7) (x ||| ((nI (D q) &&& 127) <<< (nI s &&& 31)))
def vL (D : Nat → Nat) : Nat → Nat → Nat
  | 0, _ => 0
  | f + 1, q => if D q < 128 then 1 else 1 + vL D f (q + 1)
def rV (D : Nat → Nat) (q : Nat) : Int32 := vX D 5 q 0 0
def lV (D : Nat → Nat) (q : Nat) : Nat := vL D 5 q
def uz (x : Int32) : Int32 := (x.toUInt32 >>> ((1 : Int32).toUInt32 &&& Int32.toUInt32 31)).toInt32 ^^^ -(x &&& 1)
theorem vL_le (D : Nat → Nat) : ∀ f q, vL D f q ≤ f
  | 0, _ => Nat.le_refl 0
  | f + 1, q => by
    unfold vL
    split
    · omega
    · have := vL_le D f (q + 1)
      omega
theorem lV_le (D : Nat → Nat) (q : Nat) : lV D q ≤ 5 := vL_le D 5 q
/-- a call that returns, told by a relation -/
theorem x_callE {mi pc : Nat} {ml : mLs} {st : List Value} {hp : mHp} {Q : mO × mHp → Prop} {ins : Instr} {j : Nat} {as r : List Value} {Q' : mO × mHp → Prop} (hi : mPi tbP mi pc = some (ins, 3)) (e1 : mretv tbP mi ins st = none) (hc : mcall tbP (mPo tbP mi) ins st hp = some (j, as, r))
    (hr : (mPw tbP j).1 + 1 ≤ (mPw tbP mi).1 ∧ mwd r + (mPl tbP j + 11) + (mPw tbP j).2 ≤ (mPw tbP mi).2 ∧ (margs as).length ≤ mPl tbP j)
    (hq : mq j 0 (ment (mPl tbP j) as) [] hp Q') (hx : ∀ x hp', ¬ Q' (.inr x, hp')) (kv : ∀ v hp', Q' (.inl v, hp') → mq mi (pc + 3) ml (v.toList ++ r) hp' Q) : mq mi pc ml st hp Q :=
  x_callX hi e1 hc hr hq kv (fun x hp2 h => absurd h (hx x hp2))
theorem va_id {α : Type} (f : Nat → α) (k : Nat) : va_up f k (f k) = f := by
  funext j
  unfold va_up
  split
  · next h => rw [h]
  · rfl
section S24
variable {n u : Nat} {I : Nat → Int32} {A : Nat → Nat → Int32} {J : Int64} {B : Nat → Int64} {mk sn L : Nat} {xs : Nat → Int32} {X : Nat → mC} {D : Nat → Nat} 
set_option maxRecDepth 100000 in
set_option maxHeartbeats 4000000 in
theorem c_42 (x : Int32) : mq 42 0 (ment 1 [.int x]) [] (hS n u I A J B mk sn L xs X) (fun r => r = (.inl (some (.int (uz x))), hS n u I A J B mk sn L xs X)) := by
  refine x_step (pc := 0) (pc' := 1) rfl rfl rfl rfl ?_
  refine x_const (pc := 1) (pc' := 2) (.int 1) rfl rfl rfl rfl ?_
  refine x_iushr (pc := 2) rfl rfl ?_
  refine x_step (pc := 3) (pc' := 4) rfl rfl rfl rfl ?_
  refine x_const (pc := 4) (pc' := 5) (.int 1) rfl rfl rfl rfl ?_
  refine x_iand (pc := 5) rfl rfl ?_
  refine x_ineg (pc := 6) rfl rfl ?_
  refine x_ixor (pc := 7) rfl rfl ?_
  refine x_ret (pc := 8) rfl rfl ?_
  exact rfl
set_option maxRecDepth 100000 in
set_option maxHeartbeats 4000000 in
theorem c_38 (x y : Int32) : mq 38 0 (ment 2 [.int x, .int y]) [] (hS n u I A J B mk sn L xs X) (fun r => r = (.inl (some (.int (if y < x then y else x))), hS n u I A J B mk sn L xs X)) := by
  refine x_step (pc := 0) (pc' := 1) rfl rfl rfl rfl ?_
  refine x_step (pc := 1) (pc' := 2) rfl rfl rfl rfl ?_
  refine x_cmp_gt (pc := 2) (t := 9) rfl rfl rfl (fun h2 => ?_) (fun h2 => ?_)
  · refine x_step (pc := 9) (pc' := 10) rfl rfl rfl rfl ?_
    refine x_ret (pc := 10) rfl rfl ?_
    first | rw [if_pos h2] | rw [if_neg h2]
  · refine x_step (pc := 5) (pc' := 6) rfl rfl rfl rfl ?_
    refine x_step (pc := 6) (pc' := 10) rfl rfl rfl rfl ?_
    refine x_ret (pc := 10) rfl rfl ?_
    first | rw [if_pos h2] | rw [if_neg h2]
set_option maxRecDepth 100000 in
set_option maxHeartbeats 4000000 in
theorem c_40 (h : DK (A 0) D) {sp p : Nat} (h4 : I 4 = nI sp) (h8 : I 8 = nI p) (hp : sp + p < 2 ^ 31) : mq 40 0 (ment 2 [.ref 4]) [] (hS n u I A J B mk sn L xs X) (fun r => r = (.inl (some (.int (nI (D (sp + p))))), hS n u (va_up I 8 (nI (p + 1))) A J B mk sn L xs X)) := by
  refine x_step (pc := 0) (pc' := 1) rfl rfl rfl rfl ?_
  refine x_step (pc := 1) (pc' := 4) rfl rfl rfl rfl ?_
  refine x_step (pc := 4) (pc' := 5) rfl rfl rfl rfl ?_
  refine x_step (pc := 5) (pc' := 8) rfl rfl rfl rfl ?_
  refine x_step (pc := 8) (pc' := 9) rfl rfl rfl rfl ?_
  refine x_step (pc := 9) (pc' := 12) rfl rfl rfl rfl ?_
  refine x_iadd (pc := 12) rfl rfl ?_
  refine x_call (pc := 13) rfl rfl rfl ⟨Nat.le_of_ble_eq_true rfl, Nat.le_of_ble_eq_true rfl, Nat.le_of_ble_eq_true rfl⟩ (by rw [h4, h8, nI_add]; exact c_21D h hp) ?_
  refine x_step (pc := 16) (pc' := 17) rfl rfl rfl rfl ?_
  refine x_step (pc := 17) (pc' := 18) rfl rfl rfl rfl ?_
  refine x_step (pc := 18) (pc' := 19) rfl rfl rfl rfl ?_
  refine x_step (pc := 19) (pc' := 22) rfl rfl rfl rfl ?_
  refine x_const (pc := 22) (pc' := 23) (.int 1) rfl rfl rfl rfl ?_
  refine x_iadd (pc := 23) rfl rfl ?_
  refine x_put (pc := 24) (ci := 5) (k := 6) rfl rfl rfl rfl ⟨Nat.le_of_ble_eq_true rfl, rfl, Or.inl rfl⟩ ?_
  refine x_step (pc := 27) (pc' := 28) rfl rfl rfl rfl ?_
  refine x_ret (pc := 28) rfl rfl ?_
  rw [h8, show nI p + 1 = nI (p + 1) from nI_1 p]
  rfl
set_option maxRecDepth 100000 in
set_option maxHeartbeats 4000000 in
theorem l_41 (h : DK (A 0) D) {sp : Nat} (h4 : I 4 = nI sp) : ∀ (f p s : Nat) (x : Int32) (w : Option Value), s + 7 * f = 35 → sp + p + f < 2 ^ 31 → mq 41 4 [some (.ref 4), some (.int x), some (.int (nI s)), w] [] (hS n u (va_up I 8 (nI p)) A J B mk sn L xs X) (fun r => r = (.inl (some (.int (vX D f (sp + p) s x))), hS n u (va_up I 8 (nI (p + vL D f (sp + p)))) A J B mk sn L xs X)) := by
  intro f
  induction f with
  | zero =>
    intro p s x w hs hp
    have hs : s = 35 := by omega
    subst hs
    refine x_step (pc := 4) (pc' := 5) rfl rfl rfl rfl ?_
    refine x_const (pc := 5) (pc' := 7) (.int 35) rfl rfl rfl rfl ?_
    refine x_cmp_ge (pc := 7) (t := 40) rfl rfl rfl (fun h7 => ?_) (fun h7 => ?_)
    · refine x_step (pc := 40) (pc' := 41) rfl rfl rfl rfl ?_
      refine x_ret (pc := 41) rfl rfl ?_
      exact rfl
    · exact absurd (show (35 : Int32) ≤ nI 35 from by decide) h7
  | succ f ih =>
    intro p s x w hs hp
    refine x_step (pc := 4) (pc' := 5) rfl rfl rfl rfl ?_
    refine x_const (pc := 5) (pc' := 7) (.int 35) rfl rfl rfl rfl ?_
    refine x_cmp_ge (pc := 7) (t := 40) rfl rfl rfl (fun h7 => ?_) (fun h7 => ?_)
    · exact absurd h7 (nI_ge (a := s) (b := 35) (by omega) (by decide))
    · refine x_step (pc := 10) (pc' := 11) rfl rfl rfl rfl ?_
      refine x_call (pc := 11) rfl rfl rfl ⟨Nat.le_of_ble_eq_true rfl, Nat.le_of_ble_eq_true rfl, Nat.le_of_ble_eq_true rfl⟩ (c_40 (I := va_up I 8 (nI p)) h (sp := sp) (p := p) (by rw [va_up_ne _ _ (by decide)]; exact h4) (va_up_self _ _ _) (by omega)) ?_
      refine x_step (pc := 14) (pc' := 15) rfl rfl rfl rfl ?_
      refine x_step (pc := 15) (pc' := 16) rfl rfl rfl rfl ?_
      refine x_step (pc := 16) (pc' := 17) rfl rfl rfl rfl ?_
      refine x_const (pc := 17) (pc' := 19) (.int 127) rfl rfl rfl rfl ?_
      refine x_iand (pc := 19) rfl rfl ?_
      refine x_step (pc := 20) (pc' := 21) rfl rfl rfl rfl ?_
      refine x_ishl (pc := 21) rfl rfl ?_
      refine x_ior (pc := 22) rfl rfl ?_
      refine x_step (pc := 23) (pc' := 24) rfl rfl rfl rfl ?_
      refine x_step (pc := 24) (pc' := 25) rfl rfl rfl rfl ?_
      refine x_const (pc := 25) (pc' := 28) (.int 128) rfl rfl rfl rfl ?_
      refine x_cmp_ge (pc := 28) (t := 34) rfl rfl rfl (fun h28 => ?_) (fun h28 => ?_)
      · have hb := h.2.1 (sp + p)
        rw [bx_uu]
        have hn : ¬ D (sp + p) < 128 := fun q => absurd h28 (nI_ge (a := D (sp + p)) (b := 128) q (by decide))
        refine x_iinc (pc := 34) 7 rfl rfl rfl rfl ?_
        refine x_step (pc := 37) (pc' := 4) rfl rfl rfl rfl ?_
        have e1 : vX D (f + 1) (sp + p) s x = vX D f (sp + (p + 1)) (s + 7) (x ||| ((nI (D (sp + p)) &&& 127) <<< (nI s &&& 31))) := by
          show (if D (sp + p) < 128 then _ else _) = _
          rw [if_neg hn]
          rfl
        have e2 : p + vL D (f + 1) (sp + p) = p + 1 + vL D f (sp + (p + 1)) := by
          show p + (if D (sp + p) < 128 then 1 else 1 + vL D f (sp + p + 1)) = _
          rw [if_neg hn]
          show _ = p + 1 + vL D f (sp + p + 1)
          omega
        rw [e1, e2, show nI s + 7 = nI (s + 7) from nI_add s 7]
        exact ih (p + 1) (s + 7) _ _ (by omega) (by omega)
      · have hb := h.2.1 (sp + p)
        rw [bx_uu]
        have hn : D (sp + p) < 128 := Nat.not_le.mp fun q => h28 (nI_le (a := 128) q (by omega))
        refine x_step (pc := 31) (pc' := 40) rfl rfl rfl rfl ?_
        refine x_step (pc := 40) (pc' := 41) rfl rfl rfl rfl ?_
        refine x_ret (pc := 41) rfl rfl ?_
        have e1 : vX D (f + 1) (sp + p) s x = x ||| ((nI (D (sp + p)) &&& 127) <<< (nI s &&& 31)) := by
          show (if D (sp + p) < 128 then _ else _) = _
          rw [if_pos hn]
        have e2 : vL D (f + 1) (sp + p) = 1 := by
          show (if D (sp + p) < 128 then 1 else 1 + vL D f (sp + p + 1)) = _
          rw [if_pos hn]
        rw [e1, e2]
set_option maxRecDepth 100000 in
set_option maxHeartbeats 4000000 in
theorem c_41 (h : DK (A 0) D) {sp p : Nat} (h4 : I 4 = nI sp) (h8 : I 8 = nI p) (hp : sp + p + 5 < 2 ^ 31) : mq 41 0 (ment 4 [.ref 4]) [] (hS n u I A J B mk sn L xs X) (fun r => r = (.inl (some (.int (rV D (sp + p)))), hS n u (va_up I 8 (nI (p + lV D (sp + p)))) A J B mk sn L xs X)) := by
  refine x_const (pc := 0) (pc' := 1) (.int 0) rfl rfl rfl rfl ?_
  refine x_step (pc := 1) (pc' := 2) rfl rfl rfl rfl ?_
  refine x_const (pc := 2) (pc' := 3) (.int 0) rfl rfl rfl rfl ?_
  refine x_step (pc := 3) (pc' := 4) rfl rfl rfl rfl ?_
  have hl := l_41 (n := n) (u := u) (J := J) (B := B) (mk := mk) (sn := sn) (L := L) (xs := xs) (X := X) h h4 5 p 0 0 none rfl (by omega)
  rw [← h8, va_id] at hl
  exact hl
set_option maxRecDepth 100000 in
set_option maxHeartbeats 4000000 in
theorem c_43_0 (p s : Int32) : mq 43 0 (ment 3 [.ref 5, .int p, .int s]) [] (hS n u I A J B mk sn L xs X) (fun r => r = (.inl (none), hS n u (va_up (va_up I 20 p) 21 s) A J B mk sn L xs X)) := by
  refine x_step (pc := 0) (pc' := 1) rfl rfl rfl rfl ?_
  refine x_step (pc := 1) (pc' := 2) rfl rfl rfl rfl ?_
  refine x_put (pc := 2) (ci := 4) (k := 1) rfl rfl rfl rfl ⟨Nat.le_of_ble_eq_true rfl, rfl, Or.inl rfl⟩ ?_
  refine x_step (pc := 5) (pc' := 6) rfl rfl rfl rfl ?_
  refine x_step (pc := 6) (pc' := 7) rfl rfl rfl rfl ?_
  refine x_put (pc := 7) (ci := 4) (k := 2) rfl rfl rfl rfl ⟨Nat.le_of_ble_eq_true rfl, rfl, Or.inl rfl⟩ ?_
  refine x_ret (pc := 10) rfl rfl ?_
  exact rfl
set_option maxRecDepth 100000 in
set_option maxHeartbeats 4000000 in
theorem c_43_1 (p s : Int32) : mq 43 0 (ment 3 [.ref 42, .int p, .int s]) [] (hS n u I A J B mk sn L xs X) (fun r => r = (.inl (none), hS n u (va_up (va_up I 23 p) 24 s) A J B mk sn L xs X)) := by
  refine x_step (pc := 0) (pc' := 1) rfl rfl rfl rfl ?_
  refine x_step (pc := 1) (pc' := 2) rfl rfl rfl rfl ?_
  refine x_put (pc := 2) (ci := 4) (k := 1) rfl rfl rfl rfl ⟨Nat.le_of_ble_eq_true rfl, rfl, Or.inl rfl⟩ ?_
  refine x_step (pc := 5) (pc' := 6) rfl rfl rfl rfl ?_
  refine x_step (pc := 6) (pc' := 7) rfl rfl rfl rfl ?_
  refine x_put (pc := 7) (ci := 4) (k := 2) rfl rfl rfl rfl ⟨Nat.le_of_ble_eq_true rfl, rfl, Or.inl rfl⟩ ?_
  refine x_ret (pc := 10) rfl rfl ?_
  exact rfl
set_option maxRecDepth 100000 in
set_option maxHeartbeats 4000000 in
theorem c_43_2 (p s : Int32) : mq 43 0 (ment 3 [.ref 53, .int p, .int s]) [] (hS n u I A J B mk sn L xs X) (fun r => r = (.inl (none), hS n u (va_up (va_up I 26 p) 27 s) A J B mk sn L xs X)) := by
  refine x_step (pc := 0) (pc' := 1) rfl rfl rfl rfl ?_
  refine x_step (pc := 1) (pc' := 2) rfl rfl rfl rfl ?_
  refine x_put (pc := 2) (ci := 4) (k := 1) rfl rfl rfl rfl ⟨Nat.le_of_ble_eq_true rfl, rfl, Or.inl rfl⟩ ?_
  refine x_step (pc := 5) (pc' := 6) rfl rfl rfl rfl ?_
  refine x_step (pc := 6) (pc' := 7) rfl rfl rfl rfl ?_
  refine x_put (pc := 7) (ci := 4) (k := 2) rfl rfl rfl rfl ⟨Nat.le_of_ble_eq_true rfl, rfl, Or.inl rfl⟩ ?_
  refine x_ret (pc := 10) rfl rfl ?_
  exact rfl
set_option maxRecDepth 100000 in
set_option maxHeartbeats 4000000 in
theorem c_43_3 (p s : Int32) : mq 43 0 (ment 3 [.ref 60, .int p, .int s]) [] (hS n u I A J B mk sn L xs X) (fun r => r = (.inl (none), hS n u (va_up (va_up I 29 p) 30 s) A J B mk sn L xs X)) := by
  refine x_step (pc := 0) (pc' := 1) rfl rfl rfl rfl ?_
  refine x_step (pc := 1) (pc' := 2) rfl rfl rfl rfl ?_
  refine x_put (pc := 2) (ci := 4) (k := 1) rfl rfl rfl rfl ⟨Nat.le_of_ble_eq_true rfl, rfl, Or.inl rfl⟩ ?_
  refine x_step (pc := 5) (pc' := 6) rfl rfl rfl rfl ?_
  refine x_step (pc := 6) (pc' := 7) rfl rfl rfl rfl ?_
  refine x_put (pc := 7) (ci := 4) (k := 2) rfl rfl rfl rfl ⟨Nat.le_of_ble_eq_true rfl, rfl, Or.inl rfl⟩ ?_
  refine x_ret (pc := 10) rfl rfl ?_
  exact rfl
set_option maxRecDepth 100000 in
set_option maxHeartbeats 4000000 in
theorem c_12_6 {m : Nat} (hc : I 22 = nI m) (hm : m < 4) (o t k v d : Int32) : mq 12 0 (ment 6 [.ref 6, .int o, .int t, .int k, .int v, .int d]) [] (hS n u I A J B mk sn L xs X) (fun r => r = (.inl (some (.int 1)), hS n u (va_up I 22 (nI (m + 1))) (va_up (va_up (va_up (va_up (va_up (A) 10 (upd (A 10) m o)) 11 (upd (A 11) m t)) 12 (upd (A 12) m k)) 13 (upd (A 13) m v)) 14 (upd (A 14) m d)) J B mk sn L xs X)) := by
  refine x_step (pc := 0) (pc' := 1) rfl rfl rfl rfl ?_
  refine x_step (pc := 1) (pc' := 4) rfl rfl rfl rfl ?_
  refine x_step (pc := 4) (pc' := 5) rfl rfl rfl rfl ?_
  refine x_step (pc := 5) (pc' := 8) rfl rfl rfl rfl ?_
  refine x_step (pc := 8) (pc' := 9) rfl rfl rfl rfl ?_
  refine x_cmp_lt (pc := 9) (t := 14) rfl rfl rfl (fun h9 => ?_) (fun h9 => ?_)
  · refine x_step (pc := 14) (pc' := 15) rfl rfl rfl rfl ?_
    refine x_step (pc := 15) (pc' := 18) rfl rfl rfl rfl ?_
    refine x_step (pc := 18) (pc' := 19) rfl rfl rfl rfl ?_
    refine x_step (pc := 19) (pc' := 22) rfl rfl rfl rfl ?_
    refine x_step (pc := 22) (pc' := 23) rfl rfl rfl rfl ?_
    refine x_ast (pc := 23) rfl rfl rfl (by rw [hc]; exact mIn_nI hm (by decide)) ?_
    refine x_step (pc := 24) (pc' := 25) rfl rfl rfl rfl ?_
    refine x_step (pc := 25) (pc' := 28) rfl rfl rfl rfl ?_
    refine x_step (pc := 28) (pc' := 29) rfl rfl rfl rfl ?_
    refine x_step (pc := 29) (pc' := 32) rfl rfl rfl rfl ?_
    refine x_step (pc := 32) (pc' := 33) rfl rfl rfl rfl ?_
    refine x_ast (pc := 33) rfl rfl rfl (by rw [hc]; exact mIn_nI hm (by decide)) ?_
    refine x_step (pc := 34) (pc' := 35) rfl rfl rfl rfl ?_
    refine x_step (pc := 35) (pc' := 38) rfl rfl rfl rfl ?_
    refine x_step (pc := 38) (pc' := 39) rfl rfl rfl rfl ?_
    refine x_step (pc := 39) (pc' := 42) rfl rfl rfl rfl ?_
    refine x_step (pc := 42) (pc' := 43) rfl rfl rfl rfl ?_
    refine x_ast (pc := 43) rfl rfl rfl (by rw [hc]; exact mIn_nI hm (by decide)) ?_
    refine x_step (pc := 44) (pc' := 45) rfl rfl rfl rfl ?_
    refine x_step (pc := 45) (pc' := 48) rfl rfl rfl rfl ?_
    refine x_step (pc := 48) (pc' := 49) rfl rfl rfl rfl ?_
    refine x_step (pc := 49) (pc' := 52) rfl rfl rfl rfl ?_
    refine x_step (pc := 52) (pc' := 54) rfl rfl rfl rfl ?_
    refine x_ast (pc := 54) rfl rfl rfl (by rw [hc]; exact mIn_nI hm (by decide)) ?_
    refine x_step (pc := 55) (pc' := 56) rfl rfl rfl rfl ?_
    refine x_step (pc := 56) (pc' := 59) rfl rfl rfl rfl ?_
    refine x_step (pc := 59) (pc' := 60) rfl rfl rfl rfl ?_
    refine x_step (pc := 60) (pc' := 63) rfl rfl rfl rfl ?_
    refine x_step (pc := 63) (pc' := 65) rfl rfl rfl rfl ?_
    refine x_ast (pc := 65) rfl rfl rfl (by rw [hc]; exact mIn_nI hm (by decide)) ?_
    refine x_step (pc := 66) (pc' := 67) rfl rfl rfl rfl ?_
    refine x_step (pc := 67) (pc' := 68) rfl rfl rfl rfl ?_
    refine x_step (pc := 68) (pc' := 71) rfl rfl rfl rfl ?_
    refine x_const (pc := 71) (pc' := 72) (.int 1) rfl rfl rfl rfl ?_
    refine x_iadd (pc := 72) rfl rfl ?_
    refine x_put (pc := 73) (ci := 3) (k := 5) rfl rfl rfl rfl ⟨Nat.le_of_ble_eq_true rfl, rfl, Or.inl rfl⟩ ?_
    refine x_const (pc := 76) (pc' := 77) (.int 1) rfl rfl rfl rfl ?_
    refine x_ret (pc := 77) rfl rfl ?_
    rw [hc, nI_clamp (by omega), show nI m + 1 = nI (m + 1) from nI_1 m]
    rfl
  · exact absurd (show I 22 < nI 4 from by rw [hc]; exact nI_lt hm (by decide)) h9
set_option maxRecDepth 100000 in
set_option maxHeartbeats 4000000 in
theorem c_12f_6 (hc : I 22 = nI 4) (o t k v d : Int32) : mq 12 0 (ment 6 [.ref 6, .int o, .int t, .int k, .int v, .int d]) [] (hS n u I A J B mk sn L xs X) (fun r => r = (.inl (some (.int 0)), hS n u I A J B mk sn L xs X)) := by
  refine x_step (pc := 0) (pc' := 1) rfl rfl rfl rfl ?_
  refine x_step (pc := 1) (pc' := 4) rfl rfl rfl rfl ?_
  refine x_step (pc := 4) (pc' := 5) rfl rfl rfl rfl ?_
  refine x_step (pc := 5) (pc' := 8) rfl rfl rfl rfl ?_
  refine x_step (pc := 8) (pc' := 9) rfl rfl rfl rfl ?_
  refine x_cmp_lt (pc := 9) (t := 14) rfl rfl rfl (fun h9 => ?_) (fun h9 => ?_)
  · exact absurd h9 (by rw [hc]; exact nI_nlt (a := 4) (b := 4) (Nat.le_refl _) (by decide))
  · refine x_const (pc := 12) (pc' := 13) (.int 0) rfl rfl rfl rfl ?_
    refine x_ret (pc := 13) rfl rfl ?_
    exact rfl
set_option maxRecDepth 100000 in
set_option maxHeartbeats 4000000 in
theorem c_12_34 {m : Nat} (hc : I 16 = nI m) (hm : m < 8) (o t k v d : Int32) : mq 12 0 (ment 6 [.ref 34, .int o, .int t, .int k, .int v, .int d]) [] (hS n u I A J B mk sn L xs X) (fun r => r = (.inl (some (.int 1)), hS n u (va_up I 16 (nI (m + 1))) (va_up (va_up (va_up (va_up (va_up (A) 5 (upd (A 5) m o)) 6 (upd (A 6) m t)) 7 (upd (A 7) m k)) 8 (upd (A 8) m v)) 9 (upd (A 9) m d)) J B mk sn L xs X)) := by
  refine x_step (pc := 0) (pc' := 1) rfl rfl rfl rfl ?_
  refine x_step (pc := 1) (pc' := 4) rfl rfl rfl rfl ?_
  refine x_step (pc := 4) (pc' := 5) rfl rfl rfl rfl ?_
  refine x_step (pc := 5) (pc' := 8) rfl rfl rfl rfl ?_
  refine x_step (pc := 8) (pc' := 9) rfl rfl rfl rfl ?_
  refine x_cmp_lt (pc := 9) (t := 14) rfl rfl rfl (fun h9 => ?_) (fun h9 => ?_)
  · refine x_step (pc := 14) (pc' := 15) rfl rfl rfl rfl ?_
    refine x_step (pc := 15) (pc' := 18) rfl rfl rfl rfl ?_
    refine x_step (pc := 18) (pc' := 19) rfl rfl rfl rfl ?_
    refine x_step (pc := 19) (pc' := 22) rfl rfl rfl rfl ?_
    refine x_step (pc := 22) (pc' := 23) rfl rfl rfl rfl ?_
    refine x_ast (pc := 23) rfl rfl rfl (by rw [hc]; exact mIn_nI hm (by decide)) ?_
    refine x_step (pc := 24) (pc' := 25) rfl rfl rfl rfl ?_
    refine x_step (pc := 25) (pc' := 28) rfl rfl rfl rfl ?_
    refine x_step (pc := 28) (pc' := 29) rfl rfl rfl rfl ?_
    refine x_step (pc := 29) (pc' := 32) rfl rfl rfl rfl ?_
    refine x_step (pc := 32) (pc' := 33) rfl rfl rfl rfl ?_
    refine x_ast (pc := 33) rfl rfl rfl (by rw [hc]; exact mIn_nI hm (by decide)) ?_
    refine x_step (pc := 34) (pc' := 35) rfl rfl rfl rfl ?_
    refine x_step (pc := 35) (pc' := 38) rfl rfl rfl rfl ?_
    refine x_step (pc := 38) (pc' := 39) rfl rfl rfl rfl ?_
    refine x_step (pc := 39) (pc' := 42) rfl rfl rfl rfl ?_
    refine x_step (pc := 42) (pc' := 43) rfl rfl rfl rfl ?_
    refine x_ast (pc := 43) rfl rfl rfl (by rw [hc]; exact mIn_nI hm (by decide)) ?_
    refine x_step (pc := 44) (pc' := 45) rfl rfl rfl rfl ?_
    refine x_step (pc := 45) (pc' := 48) rfl rfl rfl rfl ?_
    refine x_step (pc := 48) (pc' := 49) rfl rfl rfl rfl ?_
    refine x_step (pc := 49) (pc' := 52) rfl rfl rfl rfl ?_
    refine x_step (pc := 52) (pc' := 54) rfl rfl rfl rfl ?_
    refine x_ast (pc := 54) rfl rfl rfl (by rw [hc]; exact mIn_nI hm (by decide)) ?_
    refine x_step (pc := 55) (pc' := 56) rfl rfl rfl rfl ?_
    refine x_step (pc := 56) (pc' := 59) rfl rfl rfl rfl ?_
    refine x_step (pc := 59) (pc' := 60) rfl rfl rfl rfl ?_
    refine x_step (pc := 60) (pc' := 63) rfl rfl rfl rfl ?_
    refine x_step (pc := 63) (pc' := 65) rfl rfl rfl rfl ?_
    refine x_ast (pc := 65) rfl rfl rfl (by rw [hc]; exact mIn_nI hm (by decide)) ?_
    refine x_step (pc := 66) (pc' := 67) rfl rfl rfl rfl ?_
    refine x_step (pc := 67) (pc' := 68) rfl rfl rfl rfl ?_
    refine x_step (pc := 68) (pc' := 71) rfl rfl rfl rfl ?_
    refine x_const (pc := 71) (pc' := 72) (.int 1) rfl rfl rfl rfl ?_
    refine x_iadd (pc := 72) rfl rfl ?_
    refine x_put (pc := 73) (ci := 3) (k := 5) rfl rfl rfl rfl ⟨Nat.le_of_ble_eq_true rfl, rfl, Or.inl rfl⟩ ?_
    refine x_const (pc := 76) (pc' := 77) (.int 1) rfl rfl rfl rfl ?_
    refine x_ret (pc := 77) rfl rfl ?_
    rw [hc, nI_clamp (by omega), show nI m + 1 = nI (m + 1) from nI_1 m]
    rfl
  · exact absurd (show I 16 < nI 8 from by rw [hc]; exact nI_lt hm (by decide)) h9
set_option maxRecDepth 100000 in
set_option maxHeartbeats 4000000 in
theorem c_12f_34 (hc : I 16 = nI 8) (o t k v d : Int32) : mq 12 0 (ment 6 [.ref 34, .int o, .int t, .int k, .int v, .int d]) [] (hS n u I A J B mk sn L xs X) (fun r => r = (.inl (some (.int 0)), hS n u I A J B mk sn L xs X)) := by
  refine x_step (pc := 0) (pc' := 1) rfl rfl rfl rfl ?_
  refine x_step (pc := 1) (pc' := 4) rfl rfl rfl rfl ?_
  refine x_step (pc := 4) (pc' := 5) rfl rfl rfl rfl ?_
  refine x_step (pc := 5) (pc' := 8) rfl rfl rfl rfl ?_
  refine x_step (pc := 8) (pc' := 9) rfl rfl rfl rfl ?_
  refine x_cmp_lt (pc := 9) (t := 14) rfl rfl rfl (fun h9 => ?_) (fun h9 => ?_)
  · exact absurd h9 (by rw [hc]; exact nI_nlt (a := 8) (b := 8) (Nat.le_refl _) (by decide))
  · refine x_const (pc := 12) (pc' := 13) (.int 0) rfl rfl rfl rfl ?_
    refine x_ret (pc := 13) rfl rfl ?_
    exact rfl
set_option maxRecDepth 100000 in
set_option maxHeartbeats 4000000 in
theorem c_12_43 {m : Nat} (hc : I 25 = nI m) (hm : m < 4) (o t k v d : Int32) : mq 12 0 (ment 6 [.ref 43, .int o, .int t, .int k, .int v, .int d]) [] (hS n u I A J B mk sn L xs X) (fun r => r = (.inl (some (.int 1)), hS n u (va_up I 25 (nI (m + 1))) (va_up (va_up (va_up (va_up (va_up (A) 15 (upd (A 15) m o)) 16 (upd (A 16) m t)) 17 (upd (A 17) m k)) 18 (upd (A 18) m v)) 19 (upd (A 19) m d)) J B mk sn L xs X)) := by
  refine x_step (pc := 0) (pc' := 1) rfl rfl rfl rfl ?_
  refine x_step (pc := 1) (pc' := 4) rfl rfl rfl rfl ?_
  refine x_step (pc := 4) (pc' := 5) rfl rfl rfl rfl ?_
  refine x_step (pc := 5) (pc' := 8) rfl rfl rfl rfl ?_
  refine x_step (pc := 8) (pc' := 9) rfl rfl rfl rfl ?_
  refine x_cmp_lt (pc := 9) (t := 14) rfl rfl rfl (fun h9 => ?_) (fun h9 => ?_)
  · refine x_step (pc := 14) (pc' := 15) rfl rfl rfl rfl ?_
    refine x_step (pc := 15) (pc' := 18) rfl rfl rfl rfl ?_
    refine x_step (pc := 18) (pc' := 19) rfl rfl rfl rfl ?_
    refine x_step (pc := 19) (pc' := 22) rfl rfl rfl rfl ?_
    refine x_step (pc := 22) (pc' := 23) rfl rfl rfl rfl ?_
    refine x_ast (pc := 23) rfl rfl rfl (by rw [hc]; exact mIn_nI hm (by decide)) ?_
    refine x_step (pc := 24) (pc' := 25) rfl rfl rfl rfl ?_
    refine x_step (pc := 25) (pc' := 28) rfl rfl rfl rfl ?_
    refine x_step (pc := 28) (pc' := 29) rfl rfl rfl rfl ?_
    refine x_step (pc := 29) (pc' := 32) rfl rfl rfl rfl ?_
    refine x_step (pc := 32) (pc' := 33) rfl rfl rfl rfl ?_
    refine x_ast (pc := 33) rfl rfl rfl (by rw [hc]; exact mIn_nI hm (by decide)) ?_
    refine x_step (pc := 34) (pc' := 35) rfl rfl rfl rfl ?_
    refine x_step (pc := 35) (pc' := 38) rfl rfl rfl rfl ?_
    refine x_step (pc := 38) (pc' := 39) rfl rfl rfl rfl ?_
    refine x_step (pc := 39) (pc' := 42) rfl rfl rfl rfl ?_
    refine x_step (pc := 42) (pc' := 43) rfl rfl rfl rfl ?_
    refine x_ast (pc := 43) rfl rfl rfl (by rw [hc]; exact mIn_nI hm (by decide)) ?_
    refine x_step (pc := 44) (pc' := 45) rfl rfl rfl rfl ?_
    refine x_step (pc := 45) (pc' := 48) rfl rfl rfl rfl ?_
    refine x_step (pc := 48) (pc' := 49) rfl rfl rfl rfl ?_
    refine x_step (pc := 49) (pc' := 52) rfl rfl rfl rfl ?_
    refine x_step (pc := 52) (pc' := 54) rfl rfl rfl rfl ?_
    refine x_ast (pc := 54) rfl rfl rfl (by rw [hc]; exact mIn_nI hm (by decide)) ?_
    refine x_step (pc := 55) (pc' := 56) rfl rfl rfl rfl ?_
    refine x_step (pc := 56) (pc' := 59) rfl rfl rfl rfl ?_
    refine x_step (pc := 59) (pc' := 60) rfl rfl rfl rfl ?_
    refine x_step (pc := 60) (pc' := 63) rfl rfl rfl rfl ?_
    refine x_step (pc := 63) (pc' := 65) rfl rfl rfl rfl ?_
    refine x_ast (pc := 65) rfl rfl rfl (by rw [hc]; exact mIn_nI hm (by decide)) ?_
    refine x_step (pc := 66) (pc' := 67) rfl rfl rfl rfl ?_
    refine x_step (pc := 67) (pc' := 68) rfl rfl rfl rfl ?_
    refine x_step (pc := 68) (pc' := 71) rfl rfl rfl rfl ?_
    refine x_const (pc := 71) (pc' := 72) (.int 1) rfl rfl rfl rfl ?_
    refine x_iadd (pc := 72) rfl rfl ?_
    refine x_put (pc := 73) (ci := 3) (k := 5) rfl rfl rfl rfl ⟨Nat.le_of_ble_eq_true rfl, rfl, Or.inl rfl⟩ ?_
    refine x_const (pc := 76) (pc' := 77) (.int 1) rfl rfl rfl rfl ?_
    refine x_ret (pc := 77) rfl rfl ?_
    rw [hc, nI_clamp (by omega), show nI m + 1 = nI (m + 1) from nI_1 m]
    rfl
  · exact absurd (show I 25 < nI 4 from by rw [hc]; exact nI_lt hm (by decide)) h9
set_option maxRecDepth 100000 in
set_option maxHeartbeats 4000000 in
theorem c_12f_43 (hc : I 25 = nI 4) (o t k v d : Int32) : mq 12 0 (ment 6 [.ref 43, .int o, .int t, .int k, .int v, .int d]) [] (hS n u I A J B mk sn L xs X) (fun r => r = (.inl (some (.int 0)), hS n u I A J B mk sn L xs X)) := by
  refine x_step (pc := 0) (pc' := 1) rfl rfl rfl rfl ?_
  refine x_step (pc := 1) (pc' := 4) rfl rfl rfl rfl ?_
  refine x_step (pc := 4) (pc' := 5) rfl rfl rfl rfl ?_
  refine x_step (pc := 5) (pc' := 8) rfl rfl rfl rfl ?_
  refine x_step (pc := 8) (pc' := 9) rfl rfl rfl rfl ?_
  refine x_cmp_lt (pc := 9) (t := 14) rfl rfl rfl (fun h9 => ?_) (fun h9 => ?_)
  · exact absurd h9 (by rw [hc]; exact nI_nlt (a := 4) (b := 4) (Nat.le_refl _) (by decide))
  · refine x_const (pc := 12) (pc' := 13) (.int 0) rfl rfl rfl rfl ?_
    refine x_ret (pc := 13) rfl rfl ?_
    exact rfl
set_option maxRecDepth 100000 in
set_option maxHeartbeats 4000000 in
theorem c_12_54 {m : Nat} (hc : I 28 = nI m) (hm : m < 4) (o t k v d : Int32) : mq 12 0 (ment 6 [.ref 54, .int o, .int t, .int k, .int v, .int d]) [] (hS n u I A J B mk sn L xs X) (fun r => r = (.inl (some (.int 1)), hS n u (va_up I 28 (nI (m + 1))) (va_up (va_up (va_up (va_up (va_up (A) 20 (upd (A 20) m o)) 21 (upd (A 21) m t)) 22 (upd (A 22) m k)) 23 (upd (A 23) m v)) 24 (upd (A 24) m d)) J B mk sn L xs X)) := by
  refine x_step (pc := 0) (pc' := 1) rfl rfl rfl rfl ?_
  refine x_step (pc := 1) (pc' := 4) rfl rfl rfl rfl ?_
  refine x_step (pc := 4) (pc' := 5) rfl rfl rfl rfl ?_
  refine x_step (pc := 5) (pc' := 8) rfl rfl rfl rfl ?_
  refine x_step (pc := 8) (pc' := 9) rfl rfl rfl rfl ?_
  refine x_cmp_lt (pc := 9) (t := 14) rfl rfl rfl (fun h9 => ?_) (fun h9 => ?_)
  · refine x_step (pc := 14) (pc' := 15) rfl rfl rfl rfl ?_
    refine x_step (pc := 15) (pc' := 18) rfl rfl rfl rfl ?_
    refine x_step (pc := 18) (pc' := 19) rfl rfl rfl rfl ?_
    refine x_step (pc := 19) (pc' := 22) rfl rfl rfl rfl ?_
    refine x_step (pc := 22) (pc' := 23) rfl rfl rfl rfl ?_
    refine x_ast (pc := 23) rfl rfl rfl (by rw [hc]; exact mIn_nI hm (by decide)) ?_
    refine x_step (pc := 24) (pc' := 25) rfl rfl rfl rfl ?_
    refine x_step (pc := 25) (pc' := 28) rfl rfl rfl rfl ?_
    refine x_step (pc := 28) (pc' := 29) rfl rfl rfl rfl ?_
    refine x_step (pc := 29) (pc' := 32) rfl rfl rfl rfl ?_
    refine x_step (pc := 32) (pc' := 33) rfl rfl rfl rfl ?_
    refine x_ast (pc := 33) rfl rfl rfl (by rw [hc]; exact mIn_nI hm (by decide)) ?_
    refine x_step (pc := 34) (pc' := 35) rfl rfl rfl rfl ?_
    refine x_step (pc := 35) (pc' := 38) rfl rfl rfl rfl ?_
    refine x_step (pc := 38) (pc' := 39) rfl rfl rfl rfl ?_
    refine x_step (pc := 39) (pc' := 42) rfl rfl rfl rfl ?_
    refine x_step (pc := 42) (pc' := 43) rfl rfl rfl rfl ?_
    refine x_ast (pc := 43) rfl rfl rfl (by rw [hc]; exact mIn_nI hm (by decide)) ?_
    refine x_step (pc := 44) (pc' := 45) rfl rfl rfl rfl ?_
    refine x_step (pc := 45) (pc' := 48) rfl rfl rfl rfl ?_
    refine x_step (pc := 48) (pc' := 49) rfl rfl rfl rfl ?_
    refine x_step (pc := 49) (pc' := 52) rfl rfl rfl rfl ?_
    refine x_step (pc := 52) (pc' := 54) rfl rfl rfl rfl ?_
    refine x_ast (pc := 54) rfl rfl rfl (by rw [hc]; exact mIn_nI hm (by decide)) ?_
    refine x_step (pc := 55) (pc' := 56) rfl rfl rfl rfl ?_
    refine x_step (pc := 56) (pc' := 59) rfl rfl rfl rfl ?_
    refine x_step (pc := 59) (pc' := 60) rfl rfl rfl rfl ?_
    refine x_step (pc := 60) (pc' := 63) rfl rfl rfl rfl ?_
    refine x_step (pc := 63) (pc' := 65) rfl rfl rfl rfl ?_
    refine x_ast (pc := 65) rfl rfl rfl (by rw [hc]; exact mIn_nI hm (by decide)) ?_
    refine x_step (pc := 66) (pc' := 67) rfl rfl rfl rfl ?_
    refine x_step (pc := 67) (pc' := 68) rfl rfl rfl rfl ?_
    refine x_step (pc := 68) (pc' := 71) rfl rfl rfl rfl ?_
    refine x_const (pc := 71) (pc' := 72) (.int 1) rfl rfl rfl rfl ?_
    refine x_iadd (pc := 72) rfl rfl ?_
    refine x_put (pc := 73) (ci := 3) (k := 5) rfl rfl rfl rfl ⟨Nat.le_of_ble_eq_true rfl, rfl, Or.inl rfl⟩ ?_
    refine x_const (pc := 76) (pc' := 77) (.int 1) rfl rfl rfl rfl ?_
    refine x_ret (pc := 77) rfl rfl ?_
    rw [hc, nI_clamp (by omega), show nI m + 1 = nI (m + 1) from nI_1 m]
    rfl
  · exact absurd (show I 28 < nI 4 from by rw [hc]; exact nI_lt hm (by decide)) h9
set_option maxRecDepth 100000 in
set_option maxHeartbeats 4000000 in
theorem c_12f_54 (hc : I 28 = nI 4) (o t k v d : Int32) : mq 12 0 (ment 6 [.ref 54, .int o, .int t, .int k, .int v, .int d]) [] (hS n u I A J B mk sn L xs X) (fun r => r = (.inl (some (.int 0)), hS n u I A J B mk sn L xs X)) := by
  refine x_step (pc := 0) (pc' := 1) rfl rfl rfl rfl ?_
  refine x_step (pc := 1) (pc' := 4) rfl rfl rfl rfl ?_
  refine x_step (pc := 4) (pc' := 5) rfl rfl rfl rfl ?_
  refine x_step (pc := 5) (pc' := 8) rfl rfl rfl rfl ?_
  refine x_step (pc := 8) (pc' := 9) rfl rfl rfl rfl ?_
  refine x_cmp_lt (pc := 9) (t := 14) rfl rfl rfl (fun h9 => ?_) (fun h9 => ?_)
  · exact absurd h9 (by rw [hc]; exact nI_nlt (a := 4) (b := 4) (Nat.le_refl _) (by decide))
  · refine x_const (pc := 12) (pc' := 13) (.int 0) rfl rfl rfl rfl ?_
    refine x_ret (pc := 13) rfl rfl ?_
    exact rfl
set_option maxRecDepth 100000 in
set_option maxHeartbeats 4000000 in
theorem c_12_61 {m : Nat} (hc : I 31 = nI m) (hm : m < 4) (o t k v d : Int32) : mq 12 0 (ment 6 [.ref 61, .int o, .int t, .int k, .int v, .int d]) [] (hS n u I A J B mk sn L xs X) (fun r => r = (.inl (some (.int 1)), hS n u (va_up I 31 (nI (m + 1))) (va_up (va_up (va_up (va_up (va_up (A) 25 (upd (A 25) m o)) 26 (upd (A 26) m t)) 27 (upd (A 27) m k)) 28 (upd (A 28) m v)) 29 (upd (A 29) m d)) J B mk sn L xs X)) := by
  refine x_step (pc := 0) (pc' := 1) rfl rfl rfl rfl ?_
  refine x_step (pc := 1) (pc' := 4) rfl rfl rfl rfl ?_
  refine x_step (pc := 4) (pc' := 5) rfl rfl rfl rfl ?_
  refine x_step (pc := 5) (pc' := 8) rfl rfl rfl rfl ?_
  refine x_step (pc := 8) (pc' := 9) rfl rfl rfl rfl ?_
  refine x_cmp_lt (pc := 9) (t := 14) rfl rfl rfl (fun h9 => ?_) (fun h9 => ?_)
  · refine x_step (pc := 14) (pc' := 15) rfl rfl rfl rfl ?_
    refine x_step (pc := 15) (pc' := 18) rfl rfl rfl rfl ?_
    refine x_step (pc := 18) (pc' := 19) rfl rfl rfl rfl ?_
    refine x_step (pc := 19) (pc' := 22) rfl rfl rfl rfl ?_
    refine x_step (pc := 22) (pc' := 23) rfl rfl rfl rfl ?_
    refine x_ast (pc := 23) rfl rfl rfl (by rw [hc]; exact mIn_nI hm (by decide)) ?_
    refine x_step (pc := 24) (pc' := 25) rfl rfl rfl rfl ?_
    refine x_step (pc := 25) (pc' := 28) rfl rfl rfl rfl ?_
    refine x_step (pc := 28) (pc' := 29) rfl rfl rfl rfl ?_
    refine x_step (pc := 29) (pc' := 32) rfl rfl rfl rfl ?_
    refine x_step (pc := 32) (pc' := 33) rfl rfl rfl rfl ?_
    refine x_ast (pc := 33) rfl rfl rfl (by rw [hc]; exact mIn_nI hm (by decide)) ?_
    refine x_step (pc := 34) (pc' := 35) rfl rfl rfl rfl ?_
    refine x_step (pc := 35) (pc' := 38) rfl rfl rfl rfl ?_
    refine x_step (pc := 38) (pc' := 39) rfl rfl rfl rfl ?_
    refine x_step (pc := 39) (pc' := 42) rfl rfl rfl rfl ?_
    refine x_step (pc := 42) (pc' := 43) rfl rfl rfl rfl ?_
    refine x_ast (pc := 43) rfl rfl rfl (by rw [hc]; exact mIn_nI hm (by decide)) ?_
    refine x_step (pc := 44) (pc' := 45) rfl rfl rfl rfl ?_
    refine x_step (pc := 45) (pc' := 48) rfl rfl rfl rfl ?_
    refine x_step (pc := 48) (pc' := 49) rfl rfl rfl rfl ?_
    refine x_step (pc := 49) (pc' := 52) rfl rfl rfl rfl ?_
    refine x_step (pc := 52) (pc' := 54) rfl rfl rfl rfl ?_
    refine x_ast (pc := 54) rfl rfl rfl (by rw [hc]; exact mIn_nI hm (by decide)) ?_
    refine x_step (pc := 55) (pc' := 56) rfl rfl rfl rfl ?_
    refine x_step (pc := 56) (pc' := 59) rfl rfl rfl rfl ?_
    refine x_step (pc := 59) (pc' := 60) rfl rfl rfl rfl ?_
    refine x_step (pc := 60) (pc' := 63) rfl rfl rfl rfl ?_
    refine x_step (pc := 63) (pc' := 65) rfl rfl rfl rfl ?_
    refine x_ast (pc := 65) rfl rfl rfl (by rw [hc]; exact mIn_nI hm (by decide)) ?_
    refine x_step (pc := 66) (pc' := 67) rfl rfl rfl rfl ?_
    refine x_step (pc := 67) (pc' := 68) rfl rfl rfl rfl ?_
    refine x_step (pc := 68) (pc' := 71) rfl rfl rfl rfl ?_
    refine x_const (pc := 71) (pc' := 72) (.int 1) rfl rfl rfl rfl ?_
    refine x_iadd (pc := 72) rfl rfl ?_
    refine x_put (pc := 73) (ci := 3) (k := 5) rfl rfl rfl rfl ⟨Nat.le_of_ble_eq_true rfl, rfl, Or.inl rfl⟩ ?_
    refine x_const (pc := 76) (pc' := 77) (.int 1) rfl rfl rfl rfl ?_
    refine x_ret (pc := 77) rfl rfl ?_
    rw [hc, nI_clamp (by omega), show nI m + 1 = nI (m + 1) from nI_1 m]
    rfl
  · exact absurd (show I 31 < nI 4 from by rw [hc]; exact nI_lt hm (by decide)) h9
set_option maxRecDepth 100000 in
set_option maxHeartbeats 4000000 in
theorem c_12f_61 (hc : I 31 = nI 4) (o t k v d : Int32) : mq 12 0 (ment 6 [.ref 61, .int o, .int t, .int k, .int v, .int d]) [] (hS n u I A J B mk sn L xs X) (fun r => r = (.inl (some (.int 0)), hS n u I A J B mk sn L xs X)) := by
  refine x_step (pc := 0) (pc' := 1) rfl rfl rfl rfl ?_
  refine x_step (pc := 1) (pc' := 4) rfl rfl rfl rfl ?_
  refine x_step (pc := 4) (pc' := 5) rfl rfl rfl rfl ?_
  refine x_step (pc := 5) (pc' := 8) rfl rfl rfl rfl ?_
  refine x_step (pc := 8) (pc' := 9) rfl rfl rfl rfl ?_
  refine x_cmp_lt (pc := 9) (t := 14) rfl rfl rfl (fun h9 => ?_) (fun h9 => ?_)
  · exact absurd h9 (by rw [hc]; exact nI_nlt (a := 4) (b := 4) (Nat.le_refl _) (by decide))
  · refine x_const (pc := 12) (pc' := 13) (.int 0) rfl rfl rfl rfl ?_
    refine x_ret (pc := 13) rfl rfl ?_
    exact rfl
end S24
