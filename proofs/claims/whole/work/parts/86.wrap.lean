/-! The law's calls that may throw. -/
/-- what a call that may throw ends with: its answer lies in the law's array, or it threw one of these -/
def wQ (cd : Nat → Nat) (B : Nat → Int64) (L : Nat) (xs : Nat → Int32) (Q : mO × mHp → Prop) : mO × mHp → Prop := fun o =>
  (∃ v n u I A J mk sn X, o = (.inl (some (.int v)), hS n u I A J B mk sn L xs X) ∧ Q (.inl (some (.int (nI 0))), hS n u I A J (vp_updL B 0 v.toInt64) mk sn L xs X)) ∨
  (∃ ci n u I A J mk sn X, o = (.inr n, hS (n + 1) u I A J B mk sn L xs (va_up X n (.inr (ci, [])))) ∧ 77 ≤ n ∧ (ci = 9 ∨ ci = 10 ∨ ci = 11 ∨ ci = 12) ∧ ¬ cd ci = 0 ∧ Q (.inl (some (.int (nI (cd ci)))), hS (n + 1) u I A J B mk sn L xs (va_up X n (.inr (ci, [])))))
def wQ0 (cd : Nat → Nat) (B : Nat → Int64) (L : Nat) (xs : Nat → Int32) (Q : mO × mHp → Prop) : mO × mHp → Prop := fun o =>
  (∃ n u I A J mk sn X, o = (.inl none, hS n u I A J B mk sn L xs X) ∧ Q (.inl (some (.int (nI 0))), hS n u I A J B mk sn L xs X)) ∨
  (∃ ci n u I A J mk sn X, o = (.inr n, hS (n + 1) u I A J B mk sn L xs (va_up X n (.inr (ci, [])))) ∧ 77 ≤ n ∧ (ci = 9 ∨ ci = 10 ∨ ci = 11 ∨ ci = 12) ∧ ¬ cd ci = 0 ∧ Q (.inl (some (.int (nI (cd ci)))), hS (n + 1) u I A J B mk sn L xs (va_up X n (.inr (ci, [])))))
section S86
variable {n u : Nat} {I : Nat → Int32} {A : Nat → Nat → Int32} {J : Int64} {B : Nat → Int64} {mk sn L : Nat} {xs : Nat → Int32} {X : Nat → mC} {D : Nat → Nat} 
def cd57 (ci : Nat) : Nat := if ci = 9 then 1 else if ci = 10 then 2 else if ci = 11 then 3 else 0
set_option maxRecDepth 100000 in
set_option maxHeartbeats 4000000 in
theorem w_57 {a b c : Int32} {Q : mO × mHp → Prop} (h : mq 58 0 [some (.ref 1), some (.int a), some (.int b), some (.int c), none, none, none, none] [] (hS n u I A J B mk sn L xs X) (wQ cd57 B L xs Q)) : mq 57 0 [some (.ref 1), some (.int a), some (.int b), some (.int c), some (.ref 76), none] [] (hS n u I A J B mk sn L xs X) Q := by
  refine x_al2 (pc := 0) rfl rfl ?_
  refine x_const (pc := 2) (pc' := 3) (.int (nI 0)) rfl rfl rfl rfl ?_
  refine x_al1 (pc := 3) rfl rfl ?_
  refine x_il1 (pc := 4) rfl rfl ?_
  refine x_il1 (pc := 5) rfl rfl ?_
  refine x_il1 (pc := 6) rfl rfl ?_
  refine x_k (pc := 7) rfl rfl rfl ⟨Nat.le_of_ble_eq_true rfl, Nat.le_of_ble_eq_true rfl, Nat.le_of_ble_eq_true rfl⟩ rfl (mq_mono (fun o ho => ?_) h)
  rcases ho with ⟨v, n2, u2, I2, A2, J2, mk2, sn2, X2, e, hq⟩ | ⟨ci, n2, u2, I2, A2, J2, mk2, sn2, X2, e, hn, hci, hcd, hq⟩
  · subst e
    show mq 57 10 [some (.ref 1), some (.int a), some (.int b), some (.int c), some (.ref 76), none] [.int v, .int (nI 0), .ref 76] (hS n2 u2 I2 A2 J2 B mk2 sn2 L xs X2) _
    refine x_i2l (pc := 10) rfl rfl ?_
    refine x_lstB (pc := 11) rfl rfl ?_
    refine x_step (pc := 12) (pc' := 27) rfl rfl rfl rfl ?_
    refine x_const (pc := 27) (pc' := 28) (.int (nI 0)) rfl rfl rfl rfl ?_
    refine x_ret (pc := 28) rfl rfl ?_
    exact hq
  · subst e
    rcases hci with e | e | e | e
    · subst e
      refine mK_h (t := 15) rfl (mcls_hS hn) ?_
      refine x_as2 (pc := 15) (ml' := [some (.ref 1), some (.int a), some (.int b), some (.int c), some (.ref 76), some (.ref n2)]) rfl rfl ?_
      refine x_const (pc := 17) (pc' := 18) (.int (nI 1)) rfl rfl rfl rfl ?_
      refine x_ret (pc := 18) rfl rfl ?_
      exact hq
    · subst e
      refine mK_h (t := 19) rfl (mcls_hS hn) ?_
      refine x_as2 (pc := 19) (ml' := [some (.ref 1), some (.int a), some (.int b), some (.int c), some (.ref 76), some (.ref n2)]) rfl rfl ?_
      refine x_const (pc := 21) (pc' := 22) (.int (nI 2)) rfl rfl rfl rfl ?_
      refine x_ret (pc := 22) rfl rfl ?_
      exact hq
    · subst e
      refine mK_h (t := 23) rfl (mcls_hS hn) ?_
      refine x_as2 (pc := 23) (ml' := [some (.ref 1), some (.int a), some (.int b), some (.int c), some (.ref 76), some (.ref n2)]) rfl rfl ?_
      refine x_const (pc := 25) (pc' := 26) (.int (nI 3)) rfl rfl rfl rfl ?_
      refine x_ret (pc := 26) rfl rfl ?_
      exact hq
    · subst e
      exact absurd rfl hcd
def cd75 (ci : Nat) : Nat := if ci = 9 then 1 else if ci = 10 then 2 else if ci = 12 then 3 else 0
set_option maxRecDepth 100000 in
set_option maxHeartbeats 4000000 in
theorem w_75 {a b c : Int32} {Q : mO × mHp → Prop} (h : mq 76 0 [some (.ref 1), some (.int a), some (.int b), some (.int c), none, none, none] [] (hS n u I A J B mk sn L xs X) (wQ cd75 B L xs Q)) : mq 75 0 [some (.ref 1), some (.int a), some (.int b), some (.int c), some (.ref 76), none] [] (hS n u I A J B mk sn L xs X) Q := by
  refine x_al2 (pc := 0) rfl rfl ?_
  refine x_const (pc := 2) (pc' := 3) (.int (nI 0)) rfl rfl rfl rfl ?_
  refine x_al1 (pc := 3) rfl rfl ?_
  refine x_il1 (pc := 4) rfl rfl ?_
  refine x_il1 (pc := 5) rfl rfl ?_
  refine x_il1 (pc := 6) rfl rfl ?_
  refine x_k (pc := 7) rfl rfl rfl ⟨Nat.le_of_ble_eq_true rfl, Nat.le_of_ble_eq_true rfl, Nat.le_of_ble_eq_true rfl⟩ rfl (mq_mono (fun o ho => ?_) h)
  rcases ho with ⟨v, n2, u2, I2, A2, J2, mk2, sn2, X2, e, hq⟩ | ⟨ci, n2, u2, I2, A2, J2, mk2, sn2, X2, e, hn, hci, hcd, hq⟩
  · subst e
    show mq 75 10 [some (.ref 1), some (.int a), some (.int b), some (.int c), some (.ref 76), none] [.int v, .int (nI 0), .ref 76] (hS n2 u2 I2 A2 J2 B mk2 sn2 L xs X2) _
    refine x_i2l (pc := 10) rfl rfl ?_
    refine x_lstB (pc := 11) rfl rfl ?_
    refine x_step (pc := 12) (pc' := 27) rfl rfl rfl rfl ?_
    refine x_const (pc := 27) (pc' := 28) (.int (nI 0)) rfl rfl rfl rfl ?_
    refine x_ret (pc := 28) rfl rfl ?_
    exact hq
  · subst e
    rcases hci with e | e | e | e
    · subst e
      refine mK_h (t := 15) rfl (mcls_hS hn) ?_
      refine x_as2 (pc := 15) (ml' := [some (.ref 1), some (.int a), some (.int b), some (.int c), some (.ref 76), some (.ref n2)]) rfl rfl ?_
      refine x_const (pc := 17) (pc' := 18) (.int (nI 1)) rfl rfl rfl rfl ?_
      refine x_ret (pc := 18) rfl rfl ?_
      exact hq
    · subst e
      refine mK_h (t := 19) rfl (mcls_hS hn) ?_
      refine x_as2 (pc := 19) (ml' := [some (.ref 1), some (.int a), some (.int b), some (.int c), some (.ref 76), some (.ref n2)]) rfl rfl ?_
      refine x_const (pc := 21) (pc' := 22) (.int (nI 2)) rfl rfl rfl rfl ?_
      refine x_ret (pc := 22) rfl rfl ?_
      exact hq
    · subst e
      exact absurd rfl hcd
    · subst e
      refine mK_h (t := 23) rfl (mcls_hS hn) ?_
      refine x_as2 (pc := 23) (ml' := [some (.ref 1), some (.int a), some (.int b), some (.int c), some (.ref 76), some (.ref n2)]) rfl rfl ?_
      refine x_const (pc := 25) (pc' := 26) (.int (nI 3)) rfl rfl rfl rfl ?_
      refine x_ret (pc := 26) rfl rfl ?_
      exact hq
def cd82 (ci : Nat) : Nat := if ci = 12 then 1 else 0
set_option maxRecDepth 100000 in
set_option maxHeartbeats 4000000 in
theorem w_82 {a b : Int32} {Q : mO × mHp → Prop} (h : mq 83 0 [some (.ref 1), some (.int a), some (.int b)] [] (hS n u I A J B mk sn L xs X) (wQ cd82 B L xs Q)) : mq 82 0 [some (.ref 1), some (.int a), some (.int b), some (.ref 76), none] [] (hS n u I A J B mk sn L xs X) Q := by
  refine x_al1 (pc := 0) rfl rfl ?_
  refine x_const (pc := 1) (pc' := 2) (.int (nI 0)) rfl rfl rfl rfl ?_
  refine x_al1 (pc := 2) rfl rfl ?_
  refine x_il1 (pc := 3) rfl rfl ?_
  refine x_il1 (pc := 4) rfl rfl ?_
  refine x_k (pc := 5) rfl rfl rfl ⟨Nat.le_of_ble_eq_true rfl, Nat.le_of_ble_eq_true rfl, Nat.le_of_ble_eq_true rfl⟩ rfl (mq_mono (fun o ho => ?_) h)
  rcases ho with ⟨v, n2, u2, I2, A2, J2, mk2, sn2, X2, e, hq⟩ | ⟨ci, n2, u2, I2, A2, J2, mk2, sn2, X2, e, hn, hci, hcd, hq⟩
  · subst e
    show mq 82 8 [some (.ref 1), some (.int a), some (.int b), some (.ref 76), none] [.int v, .int (nI 0), .ref 76] (hS n2 u2 I2 A2 J2 B mk2 sn2 L xs X2) _
    refine x_i2l (pc := 8) rfl rfl ?_
    refine x_lstB (pc := 9) rfl rfl ?_
    refine x_step (pc := 10) (pc' := 17) rfl rfl rfl rfl ?_
    refine x_const (pc := 17) (pc' := 18) (.int (nI 0)) rfl rfl rfl rfl ?_
    refine x_ret (pc := 18) rfl rfl ?_
    exact hq
  · subst e
    rcases hci with e | e | e | e
    · subst e
      exact absurd rfl hcd
    · subst e
      exact absurd rfl hcd
    · subst e
      exact absurd rfl hcd
    · subst e
      refine mK_h (t := 13) rfl (mcls_hS hn) ?_
      refine x_as2 (pc := 13) (ml' := [some (.ref 1), some (.int a), some (.int b), some (.ref 76), some (.ref n2)]) rfl rfl ?_
      refine x_const (pc := 15) (pc' := 16) (.int (nI 1)) rfl rfl rfl rfl ?_
      refine x_ret (pc := 16) rfl rfl ?_
      exact hq
def cd84 (ci : Nat) : Nat := if ci = 9 then 1 else if ci = 10 then 2 else 0
set_option maxRecDepth 100000 in
set_option maxHeartbeats 4000000 in
theorem w_84 {a b : Int32} {Q : mO × mHp → Prop} (h : mq 85 0 [some (.ref 1), some (.int a), some (.int b), none, none] [] (hS n u I A J B mk sn L xs X) (wQ cd84 B L xs Q)) : mq 84 0 [some (.ref 1), some (.int a), some (.int b), some (.ref 76), none] [] (hS n u I A J B mk sn L xs X) Q := by
  refine x_al1 (pc := 0) rfl rfl ?_
  refine x_const (pc := 1) (pc' := 2) (.int (nI 0)) rfl rfl rfl rfl ?_
  refine x_al1 (pc := 2) rfl rfl ?_
  refine x_il1 (pc := 3) rfl rfl ?_
  refine x_il1 (pc := 4) rfl rfl ?_
  refine x_k (pc := 5) rfl rfl rfl ⟨Nat.le_of_ble_eq_true rfl, Nat.le_of_ble_eq_true rfl, Nat.le_of_ble_eq_true rfl⟩ rfl (mq_mono (fun o ho => ?_) h)
  rcases ho with ⟨v, n2, u2, I2, A2, J2, mk2, sn2, X2, e, hq⟩ | ⟨ci, n2, u2, I2, A2, J2, mk2, sn2, X2, e, hn, hci, hcd, hq⟩
  · subst e
    show mq 84 8 [some (.ref 1), some (.int a), some (.int b), some (.ref 76), none] [.int v, .int (nI 0), .ref 76] (hS n2 u2 I2 A2 J2 B mk2 sn2 L xs X2) _
    refine x_i2l (pc := 8) rfl rfl ?_
    refine x_lstB (pc := 9) rfl rfl ?_
    refine x_step (pc := 10) (pc' := 21) rfl rfl rfl rfl ?_
    refine x_const (pc := 21) (pc' := 22) (.int (nI 0)) rfl rfl rfl rfl ?_
    refine x_ret (pc := 22) rfl rfl ?_
    exact hq
  · subst e
    rcases hci with e | e | e | e
    · subst e
      refine mK_h (t := 13) rfl (mcls_hS hn) ?_
      refine x_as2 (pc := 13) (ml' := [some (.ref 1), some (.int a), some (.int b), some (.ref 76), some (.ref n2)]) rfl rfl ?_
      refine x_const (pc := 15) (pc' := 16) (.int (nI 1)) rfl rfl rfl rfl ?_
      refine x_ret (pc := 16) rfl rfl ?_
      exact hq
    · subst e
      refine mK_h (t := 17) rfl (mcls_hS hn) ?_
      refine x_as2 (pc := 17) (ml' := [some (.ref 1), some (.int a), some (.int b), some (.ref 76), some (.ref n2)]) rfl rfl ?_
      refine x_const (pc := 19) (pc' := 20) (.int (nI 2)) rfl rfl rfl rfl ?_
      refine x_ret (pc := 20) rfl rfl ?_
      exact hq
    · subst e
      exact absurd rfl hcd
    · subst e
      exact absurd rfl hcd
def cd87 (ci : Nat) : Nat := if ci = 9 then 1 else if ci = 10 then 2 else if ci = 12 then 3 else if ci = 11 then 4 else 0
set_option maxRecDepth 100000 in
set_option maxHeartbeats 4000000 in
theorem w_87 {a b c : Int32} {Q : mO × mHp → Prop} (h : mq 88 0 [some (.ref 1), some (.int a), some (.int b), some (.int c), none] [] (hS n u I A J B mk sn L xs X) (wQ0 cd87 B L xs Q)) : mq 87 0 [some (.ref 1), some (.int a), some (.int b), some (.int c), none] [] (hS n u I A J B mk sn L xs X) Q := by
  refine x_al1 (pc := 0) rfl rfl ?_
  refine x_il1 (pc := 1) rfl rfl ?_
  refine x_il1 (pc := 2) rfl rfl ?_
  refine x_il1 (pc := 3) rfl rfl ?_
  refine x_k (pc := 4) rfl rfl rfl ⟨Nat.le_of_ble_eq_true rfl, Nat.le_of_ble_eq_true rfl, Nat.le_of_ble_eq_true rfl⟩ rfl (mq_mono (fun o ho => ?_) h)
  rcases ho with ⟨n2, u2, I2, A2, J2, mk2, sn2, X2, e, hq⟩ | ⟨ci, n2, u2, I2, A2, J2, mk2, sn2, X2, e, hn, hci, hcd, hq⟩
  · subst e
    show mq 87 7 [some (.ref 1), some (.int a), some (.int b), some (.int c), none] [] (hS n2 u2 I2 A2 J2 B mk2 sn2 L xs X2) _
    refine x_step (pc := 7) (pc' := 26) rfl rfl rfl rfl ?_
    refine x_const (pc := 26) (pc' := 27) (.int (nI 0)) rfl rfl rfl rfl ?_
    refine x_ret (pc := 27) rfl rfl ?_
    exact hq
  · subst e
    rcases hci with e | e | e | e
    · subst e
      refine mK_h (t := 10) rfl (mcls_hS hn) ?_
      refine x_as2 (pc := 10) (ml' := [some (.ref 1), some (.int a), some (.int b), some (.int c), some (.ref n2)]) rfl rfl ?_
      refine x_const (pc := 12) (pc' := 13) (.int (nI 1)) rfl rfl rfl rfl ?_
      refine x_ret (pc := 13) rfl rfl ?_
      exact hq
    · subst e
      refine mK_h (t := 14) rfl (mcls_hS hn) ?_
      refine x_as2 (pc := 14) (ml' := [some (.ref 1), some (.int a), some (.int b), some (.int c), some (.ref n2)]) rfl rfl ?_
      refine x_const (pc := 16) (pc' := 17) (.int (nI 2)) rfl rfl rfl rfl ?_
      refine x_ret (pc := 17) rfl rfl ?_
      exact hq
    · subst e
      refine mK_h (t := 22) rfl (mcls_hS hn) ?_
      refine x_as2 (pc := 22) (ml' := [some (.ref 1), some (.int a), some (.int b), some (.int c), some (.ref n2)]) rfl rfl ?_
      refine x_const (pc := 24) (pc' := 25) (.int (nI 4)) rfl rfl rfl rfl ?_
      refine x_ret (pc := 25) rfl rfl ?_
      exact hq
    · subst e
      refine mK_h (t := 18) rfl (mcls_hS hn) ?_
      refine x_as2 (pc := 18) (ml' := [some (.ref 1), some (.int a), some (.int b), some (.int c), some (.ref n2)]) rfl rfl ?_
      refine x_const (pc := 20) (pc' := 21) (.int (nI 3)) rfl rfl rfl rfl ?_
      refine x_ret (pc := 21) rfl rfl ?_
      exact hq
def cd90 (ci : Nat) : Nat := if ci = 9 then 1 else 0
set_option maxRecDepth 100000 in
set_option maxHeartbeats 4000000 in
theorem w_90 {a b : Int32} {Q : mO × mHp → Prop} (h : mq 91 0 [some (.ref 1), some (.int a), some (.int b)] [] (hS n u I A J B mk sn L xs X) (wQ cd90 B L xs Q)) : mq 90 0 [some (.ref 1), some (.int a), some (.int b), some (.ref 76), none] [] (hS n u I A J B mk sn L xs X) Q := by
  refine x_al1 (pc := 0) rfl rfl ?_
  refine x_const (pc := 1) (pc' := 2) (.int (nI 0)) rfl rfl rfl rfl ?_
  refine x_al1 (pc := 2) rfl rfl ?_
  refine x_il1 (pc := 3) rfl rfl ?_
  refine x_il1 (pc := 4) rfl rfl ?_
  refine x_k (pc := 5) rfl rfl rfl ⟨Nat.le_of_ble_eq_true rfl, Nat.le_of_ble_eq_true rfl, Nat.le_of_ble_eq_true rfl⟩ rfl (mq_mono (fun o ho => ?_) h)
  rcases ho with ⟨v, n2, u2, I2, A2, J2, mk2, sn2, X2, e, hq⟩ | ⟨ci, n2, u2, I2, A2, J2, mk2, sn2, X2, e, hn, hci, hcd, hq⟩
  · subst e
    show mq 90 8 [some (.ref 1), some (.int a), some (.int b), some (.ref 76), none] [.int v, .int (nI 0), .ref 76] (hS n2 u2 I2 A2 J2 B mk2 sn2 L xs X2) _
    refine x_i2l (pc := 8) rfl rfl ?_
    refine x_lstB (pc := 9) rfl rfl ?_
    refine x_step (pc := 10) (pc' := 17) rfl rfl rfl rfl ?_
    refine x_const (pc := 17) (pc' := 18) (.int (nI 0)) rfl rfl rfl rfl ?_
    refine x_ret (pc := 18) rfl rfl ?_
    exact hq
  · subst e
    rcases hci with e | e | e | e
    · subst e
      refine mK_h (t := 13) rfl (mcls_hS hn) ?_
      refine x_as2 (pc := 13) (ml' := [some (.ref 1), some (.int a), some (.int b), some (.ref 76), some (.ref n2)]) rfl rfl ?_
      refine x_const (pc := 15) (pc' := 16) (.int (nI 1)) rfl rfl rfl rfl ?_
      refine x_ret (pc := 16) rfl rfl ?_
      exact hq
    · subst e
      exact absurd rfl hcd
    · subst e
      exact absurd rfl hcd
    · subst e
      exact absurd rfl hcd
def cd92 (ci : Nat) : Nat := if ci = 9 then 1 else if ci = 10 then 2 else 0
set_option maxRecDepth 100000 in
set_option maxHeartbeats 4000000 in
theorem w_92 {a b : Int32} {Q : mO × mHp → Prop} (h : mq 93 0 [some (.ref 1), some (.int a), some (.int b), none, none, none, none, none, none] [] (hS n u I A J B mk sn L xs X) (wQ cd92 B L xs Q)) : mq 92 0 [some (.ref 1), some (.int a), some (.int b), some (.ref 76), none] [] (hS n u I A J B mk sn L xs X) Q := by
  refine x_al1 (pc := 0) rfl rfl ?_
  refine x_const (pc := 1) (pc' := 2) (.int (nI 0)) rfl rfl rfl rfl ?_
  refine x_al1 (pc := 2) rfl rfl ?_
  refine x_il1 (pc := 3) rfl rfl ?_
  refine x_il1 (pc := 4) rfl rfl ?_
  refine x_k (pc := 5) rfl rfl rfl ⟨Nat.le_of_ble_eq_true rfl, Nat.le_of_ble_eq_true rfl, Nat.le_of_ble_eq_true rfl⟩ rfl (mq_mono (fun o ho => ?_) h)
  rcases ho with ⟨v, n2, u2, I2, A2, J2, mk2, sn2, X2, e, hq⟩ | ⟨ci, n2, u2, I2, A2, J2, mk2, sn2, X2, e, hn, hci, hcd, hq⟩
  · subst e
    show mq 92 8 [some (.ref 1), some (.int a), some (.int b), some (.ref 76), none] [.int v, .int (nI 0), .ref 76] (hS n2 u2 I2 A2 J2 B mk2 sn2 L xs X2) _
    refine x_i2l (pc := 8) rfl rfl ?_
    refine x_lstB (pc := 9) rfl rfl ?_
    refine x_step (pc := 10) (pc' := 21) rfl rfl rfl rfl ?_
    refine x_const (pc := 21) (pc' := 22) (.int (nI 0)) rfl rfl rfl rfl ?_
    refine x_ret (pc := 22) rfl rfl ?_
    exact hq
  · subst e
    rcases hci with e | e | e | e
    · subst e
      refine mK_h (t := 13) rfl (mcls_hS hn) ?_
      refine x_as2 (pc := 13) (ml' := [some (.ref 1), some (.int a), some (.int b), some (.ref 76), some (.ref n2)]) rfl rfl ?_
      refine x_const (pc := 15) (pc' := 16) (.int (nI 1)) rfl rfl rfl rfl ?_
      refine x_ret (pc := 16) rfl rfl ?_
      exact hq
    · subst e
      refine mK_h (t := 17) rfl (mcls_hS hn) ?_
      refine x_as2 (pc := 17) (ml' := [some (.ref 1), some (.int a), some (.int b), some (.ref 76), some (.ref n2)]) rfl rfl ?_
      refine x_const (pc := 19) (pc' := 20) (.int (nI 2)) rfl rfl rfl rfl ?_
      refine x_ret (pc := 20) rfl rfl ?_
      exact hq
    · subst e
      exact absurd rfl hcd
    · subst e
      exact absurd rfl hcd
def cd103 (ci : Nat) : Nat := if ci = 9 then 1 else if ci = 10 then 2 else 0
set_option maxRecDepth 100000 in
set_option maxHeartbeats 4000000 in
theorem w_103 {a b : Int32} {Q : mO × mHp → Prop} (h : mq 104 0 [some (.ref 1), some (.int a), some (.int b), none, none, none, none, none] [] (hS n u I A J B mk sn L xs X) (wQ cd103 B L xs Q)) : mq 103 0 [some (.ref 1), some (.int a), some (.int b), some (.ref 76), none] [] (hS n u I A J B mk sn L xs X) Q := by
  refine x_al1 (pc := 0) rfl rfl ?_
  refine x_const (pc := 1) (pc' := 2) (.int (nI 0)) rfl rfl rfl rfl ?_
  refine x_al1 (pc := 2) rfl rfl ?_
  refine x_il1 (pc := 3) rfl rfl ?_
  refine x_il1 (pc := 4) rfl rfl ?_
  refine x_k (pc := 5) rfl rfl rfl ⟨Nat.le_of_ble_eq_true rfl, Nat.le_of_ble_eq_true rfl, Nat.le_of_ble_eq_true rfl⟩ rfl (mq_mono (fun o ho => ?_) h)
  rcases ho with ⟨v, n2, u2, I2, A2, J2, mk2, sn2, X2, e, hq⟩ | ⟨ci, n2, u2, I2, A2, J2, mk2, sn2, X2, e, hn, hci, hcd, hq⟩
  · subst e
    show mq 103 8 [some (.ref 1), some (.int a), some (.int b), some (.ref 76), none] [.int v, .int (nI 0), .ref 76] (hS n2 u2 I2 A2 J2 B mk2 sn2 L xs X2) _
    refine x_i2l (pc := 8) rfl rfl ?_
    refine x_lstB (pc := 9) rfl rfl ?_
    refine x_step (pc := 10) (pc' := 21) rfl rfl rfl rfl ?_
    refine x_const (pc := 21) (pc' := 22) (.int (nI 0)) rfl rfl rfl rfl ?_
    refine x_ret (pc := 22) rfl rfl ?_
    exact hq
  · subst e
    rcases hci with e | e | e | e
    · subst e
      refine mK_h (t := 13) rfl (mcls_hS hn) ?_
      refine x_as2 (pc := 13) (ml' := [some (.ref 1), some (.int a), some (.int b), some (.ref 76), some (.ref n2)]) rfl rfl ?_
      refine x_const (pc := 15) (pc' := 16) (.int (nI 1)) rfl rfl rfl rfl ?_
      refine x_ret (pc := 16) rfl rfl ?_
      exact hq
    · subst e
      refine mK_h (t := 17) rfl (mcls_hS hn) ?_
      refine x_as2 (pc := 17) (ml' := [some (.ref 1), some (.int a), some (.int b), some (.ref 76), some (.ref n2)]) rfl rfl ?_
      refine x_const (pc := 19) (pc' := 20) (.int (nI 2)) rfl rfl rfl rfl ?_
      refine x_ret (pc := 20) rfl rfl ?_
      exact hq
    · subst e
      exact absurd rfl hcd
    · subst e
      exact absurd rfl hcd
end S86
