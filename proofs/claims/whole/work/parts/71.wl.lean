/-! Logs under writes. -/
/-- a row of writes done -/
def dWs (D : Nat → Nat) (l : List WI) : Nat → Nat := l.foldl (fun D x => dW D x.1 x.2.1 x.2.2) D
theorem dWs_app (D : Nat → Nat) (a b : List WI) : dWs D (a ++ b) = dWs (dWs D a) b := List.foldl_append
theorem wrs_on : ∀ {l : List WI} {S : DS}, dO (wrs S l) = false → dO S = false ∧ dD (wrs S l) = dWs (dD S) l
  | [], _, h => ⟨h, rfl⟩
  | x :: t, S, h => by
    have h1 := wrs_on (l := t) (S := wr1 S x) h
    have h2 := wr1_D h1.1
    refine ⟨h2.1, ?_⟩
    show dD (wrs (wr1 S x) t) = dWs (dW (dD S) x.1 x.2.1 x.2.2) t
    rw [h1.2, h2.2]
theorem wrs_pre : ∀ {l : List WI} {S : DS}, dO S = false → dO (wrs S l) = true → ∃ k, k < l.length ∧ dD (wrs S l) = dWs (dD S) (l.take k)
  | [], S, h, h1 => by
    have h2 : dO S = true := h1
    rw [h] at h2
    exact Bool.noConfusion h2
  | x :: t, S, h, h1 => by
    by_cases ho : dO (wr1 S x) = true
    · have hc : dC S = some 0 := by
        refine Decidable.byContradiction (fun q => ?_)
        rw [wr1_on x h q] at ho
        exact Bool.noConfusion ho
      refine ⟨0, Nat.zero_lt_succ _, ?_⟩
      show dD (wrs (wr1 S x) t) = dD S
      rw [wrs_off t ho, wr1_due x h hc]
      rfl
    · have ho' := ne_true ho
      obtain ⟨k, hk, e⟩ := wrs_pre (l := t) (S := wr1 S x) ho' h1
      refine ⟨k + 1, Nat.succ_lt_succ hk, ?_⟩
      show dD (wrs (wr1 S x) t) = dWs (dW (dD S) x.1 x.2.1 x.2.2) (t.take k)
      rw [e, (wr1_D ho').2]
/-- bytes written block by block -/
theorem spW_D {s f e : Nat} {t : List Nat} : ∀ (z : Nat) {k : Nat} {D : Nat → Nat}, f ≤ k → k ≤ e → (k < e → e ≤ (k / 32 + z) * 32) → ∀ x, dWs D (spW s f e t z k) x = if 128 * s + k ≤ x ∧ x < 128 * s + e then gB0 t (x - 128 * s - f) else D x
  | 0, k, D, hf, hk, hz, x => by
    show D x = _
    rw [if_neg (fun q => by have := hz (by omega); omega)]
  | z + 1, k, D, hf, hk, hz, x => by
    by_cases hke : k < e
    · have e1 : spW s f e t (z + 1) k = wi (128 * s + k) (nK k e - k) (fun i => gB0 t (k - f + i)) :: spW s f e t z (nK k e) := if_pos hke
      have hn := nK_lt hke
      have hz2 : nK k e < e → e ≤ (nK k e / 32 + z) * 32 := by
        intro q
        have h1 := hz hke
        unfold nK at q ⊢
        split at q
        · rename_i h2
          rw [if_pos h2]
          omega
        · omega
      rw [e1]
      show dWs (dW D (128 * s + k) (nK k e - k) (fun i => gB0 t (k - f + i))) (spW s f e t z (nK k e)) x = _
      rw [spW_D z (by omega) hn.2 hz2 x]
      by_cases h1 : 128 * s + nK k e ≤ x ∧ x < 128 * s + e
      · rw [if_pos h1, if_pos (by omega)]
      · rw [if_neg h1]
        by_cases h2 : 128 * s + k ≤ x ∧ x < 128 * s + e
        · rw [if_pos h2]
          unfold dW
          rw [if_pos (by omega)]
          show gB0 t (k - f + (x - (128 * s + k))) = _
          rw [show k - f + (x - (128 * s + k)) = x - 128 * s - f by omega]
        · rw [if_neg h2]
          exact dW_out (by omega)
    · have e1 : spW s f e t (z + 1) k = [] := if_neg hke
      rw [e1, if_neg (by omega)]
      rfl
/-- a slot is the same but for owner and generation -/
def SmS (D D' : Nat → Nat) (s : Nat) : Prop := ∀ i, i < 128 → ¬ i = 2 → ¬ i = 3 → D' (128 * s + i) = D (128 * s + i)
theorem SmS_hd {D D' : Nat → Nat} {s : Nat} (h : SmS D D' s) : mB D' s = mB D s ∧ bB D' s = bB D s := hd_same (fun i hi h2 h3 => h i (by omega) h2 h3)
theorem SmS_WS {D D' : Nat → Nat} {s c : Nat} (h : SmS D D' s) (hW : WS D s c) : WS D' s c := WS_same hW (fun i h8 hi => h i (by have := hW.1; omega) (by omega) (by omega)) (SmS_hd h).1
theorem SmS_sRs {D D' : Nat → Nat} {s c : Nat} (h : SmS D D' s) (hW : WS D s c) : sRs D' s c = sRs D s c := sRs_same hW (fun i h8 hi => h i (by have := hW.1; omega) (by omega) (by omega)) (SmS_hd h).2
theorem WL_same {D D' : Nat → Nat} {l n N : Nat} {f bc : Nat → Nat} (h : WL D l f bc n N) (ho : ∀ s, s < 16 → (oB D' s = l + 1 ↔ oB D s = l + 1)) (hs : ∀ s, s < 16 → oB D s = l + 1 → SmS D D' s) : WL D' l f bc n N := by
  have hk : ∀ k, k < n → SmS D D' (f k) := fun k hk => hs _ (h.1.1 k hk).1 (h.1.1 k hk).2.1
  refine ⟨⟨fun k hk' => ?_, fun s h1 h2 => h.1.2.1 s h1 ((ho s h1).mp h2), fun i j hij hj => ?_⟩, fun k hk' => SmS_WS (hk k hk') (h.2.1 k hk'), LO_ext h.2.2 (fun k hk' => (SmS_hd (hk k hk')).2) (fun k hk' => SmS_sRs (hk k hk') (h.2.1 k hk'))⟩
  · have h1 := h.1.1 k hk'
    exact ⟨h1.1, (ho _ h1.1).mpr h1.2.1, by rw [(SmS_hd (hk k hk')).2]; exact h1.2.2⟩
  · rw [(SmS_hd (hk i (by omega))).2, (SmS_hd (hk j hj)).2]
    exact h.1.2.2 i j hij hj
theorem WL_bc {D : Nat → Nat} {l n N : Nat} {f bc bc' : Nat → Nat} (h : WL D l f bc n N) (e : ∀ k, k < n → bc' (f k) = bc (f k)) : WL D l f bc' n N := ⟨h.1, fun k hk => by rw [e k hk]; exact h.2.1 k hk, LO_ext h.2.2 (fun _ _ => rfl) (fun k hk => by show sRs D (f k) (bc' (f k)) = _; rw [e k hk])⟩
/-- the j-th segment's slot is let go -/
theorem WL_rm {D D' : Nat → Nat} {l n N j : Nat} {f bc : Nat → Nat} (h : WL D l f bc n N) (hj : j + 1 < n) (h0 : oB D' (f j) = 0) (ho : ∀ t, t < 16 → ¬ t = f j → oB D' t = oB D t) (hs : ∀ t, t < 16 → ¬ t = f j → SmS D D' t) : WL D' l (rmF f j) bc (n - 1) N := by
  have hne : ∀ k, k < n → ¬ k = j → ¬ f k = f j := fun k hk hkj e => hkj (SG_inj h.1 hk (by omega) e)
  have hx : ∀ k, k < n - 1 → ∃ m, m < n ∧ ¬ m = j ∧ rmF f j k = f m ∧ (k < j → m = k) ∧ (¬ k < j → m = k + 1) := fun k hk => by
    by_cases hkj : k < j
    · exact ⟨k, by omega, by omega, if_pos hkj, fun _ => rfl, fun q => absurd hkj q⟩
    · exact ⟨k + 1, by omega, by omega, if_neg hkj, fun q => absurd q hkj, fun _ => rfl⟩
  have hS : ∀ m, m < n → ¬ m = j → SmS D D' (f m) := fun m hm hmj => hs _ (h.1.1 m hm).1 (hne m hm hmj)
  refine ⟨⟨fun k hk => ?_, fun s h1 h2 => ?_, fun a b hab hb => ?_⟩, fun k hk => ?_, ?_⟩
  · obtain ⟨m, hm, hmj, e, _⟩ := hx k hk
    rw [e, ho _ (h.1.1 m hm).1 (hne m hm hmj), (SmS_hd (hS m hm hmj)).2]
    exact h.1.1 m hm
  · have hsj : ¬ s = f j := fun q => by
      rw [q, h0] at h2
      omega
    rw [ho s h1 hsj] at h2
    obtain ⟨k, hk, e⟩ := h.1.2.1 s h1 h2
    by_cases hkj : k < j
    · exact ⟨k, by omega, (if_pos hkj).trans e⟩
    · have hkj2 : ¬ k = j := fun q => hsj (by rw [← e, q])
      refine ⟨k - 1, by omega, ?_⟩
      unfold rmF
      rw [if_neg (by omega), show k - 1 + 1 = k by omega]
      exact e
  · obtain ⟨m, hm, hmj, e, e1, e2⟩ := hx a (by omega)
    obtain ⟨m', hm', hmj', e', e1', e2'⟩ := hx b hb
    rw [e, e', (SmS_hd (hS m hm hmj)).2, (SmS_hd (hS m' hm' hmj')).2]
    refine h.1.2.2 m m' ?_ hm'
    by_cases h5 : a < j
    · by_cases h6 : b < j
      · rw [e1 h5, e1' h6]
        exact hab
      · rw [e1 h5, e2' h6]
        omega
    · rw [e2 h5, e2' (by omega)]
      omega
  · obtain ⟨m, hm, hmj, e, _⟩ := hx k hk
    rw [e]
    exact SmS_WS (hS m hm hmj) (h.2.1 m hm)
  · refine LO_rm h.2.2 hj (fun k hk => ?_) (fun k hk => ?_)
    · obtain ⟨m, hm, hmj, e, e1, e2⟩ := hx k hk
      show bB D' (rmF f j k) = _
      rw [e, (SmS_hd (hS m hm hmj)).2]
      by_cases h5 : k < j
      · rw [if_pos h5, e1 h5]
      · rw [if_neg h5, e2 h5]
    · obtain ⟨m, hm, hmj, e, e1, e2⟩ := hx k hk
      show sRs D' (rmF f j k) (bc (rmF f j k)) = _
      rw [e, SmS_sRs (hS m hm hmj) (h.2.1 m hm)]
      by_cases h5 : k < j
      · rw [if_pos h5, e1 h5]
      · rw [if_neg h5, e2 h5]
/-- the j-th segment moves to slot r -/
theorem WL_mv {D D' : Nat → Nat} {l n N j r c : Nat} {f bc : Nat → Nat} (h : WL D l f bc n N) (hj : j + 1 < n) (hr : r < 16) (hr0 : oB D r = 0) (h0 : oB D' (f j) = 0) (h1 : oB D' r = l + 1) (ho : ∀ t, t < 16 → ¬ t = f j → ¬ t = r → oB D' t = oB D t) (hs : ∀ t, t < 16 → ¬ t = f j → ¬ t = r → SmS D D' t) (hW : WS D' r c) (hb : bB D' r = bB D (f j)) (hsub : List.Sublist (sRs D' r c) (sRs D (f j) (bc (f j)))) (hne0 : ¬ sRs D' r c = []) : WL D' l (fun k => if k = j then r else f k) (fun x => if x = r then c else bc x) n N := by
  have hne : ∀ k, k < n → ¬ k = j → ¬ f k = f j := fun k hk hkj e => hkj (SG_inj h.1 hk (by omega) e)
  have hnr : ∀ k, k < n → ¬ f k = r := fun k hk e => by
    have h5 := (h.1.1 k hk).2.1
    rw [e, hr0] at h5
    omega
  have hS : ∀ m, m < n → ¬ m = j → SmS D D' (f m) := fun m hm hmj => hs _ (h.1.1 m hm).1 (hne m hm hmj) (hnr m hm)
  have hbb : ∀ k, k < n → bB D' (if k = j then r else f k) = bB D (f k) := fun k hk => by
    by_cases hkj : k = j
    · rw [if_pos hkj, hb, hkj]
    · rw [if_neg hkj, (SmS_hd (hS k hk hkj)).2]
  refine ⟨⟨fun k hk => ?_, fun s hs1 hs2 => ?_, fun a b hab hb' => ?_⟩, fun k hk => ?_, ?_⟩
  · have h5 := h.1.1 k hk
    show (if k = j then r else f k) < 16 ∧ oB D' (if k = j then r else f k) = l + 1 ∧ bB D' (if k = j then r else f k) < 2 ^ 31
    rw [hbb k hk]
    by_cases hkj : k = j
    · rw [if_pos hkj]
      exact ⟨hr, h1, h5.2.2⟩
    · rw [if_neg hkj, ho _ h5.1 (hne k hk hkj) (hnr k hk)]
      exact h5
  · by_cases hsr : s = r
    · exact ⟨j, by omega, (if_pos rfl).trans hsr.symm⟩
    · have hsj : ¬ s = f j := fun q => by
        rw [q, h0] at hs2
        omega
      rw [ho s hs1 hsj hsr] at hs2
      obtain ⟨k, hk, e⟩ := h.1.2.1 s hs1 hs2
      have hkj : ¬ k = j := fun q => hsj (by rw [← e, q])
      exact ⟨k, hk, (if_neg hkj).trans e⟩
  · show bB D' (if a = j then r else f a) < bB D' (if b = j then r else f b)
    rw [hbb a (by omega), hbb b hb']
    exact h.1.2.2 a b hab hb'
  · show WS D' (if k = j then r else f k) (if (if k = j then r else f k) = r then c else bc (if k = j then r else f k))
    by_cases hkj : k = j
    · rw [if_pos hkj, if_pos rfl]
      exact hW
    · rw [if_neg hkj, if_neg (hnr k hk)]
      exact SmS_WS (hS k hk hkj) (h.2.1 k hk)
  · have hrs : ∀ k, k < n → ¬ k = j → sRs D' (if k = j then r else f k) (if (if k = j then r else f k) = r then c else bc (if k = j then r else f k)) = sRs D (f k) (bc (f k)) := fun k hk hkj => by
      rw [if_neg hkj, if_neg (hnr k hk)]
      exact SmS_sRs (hS k hk hkj) (h.2.1 k hk)
    have hrj : sRs D' (if j = j then r else f j) (if (if j = j then r else f j) = r then c else bc (if j = j then r else f j)) = sRs D' r c := by
      rw [if_pos rfl, if_pos rfl]
    exact LO_sub h.2.2 hj hbb hrs (by show List.Sublist (sRs D' (if j = j then r else f j) (if (if j = j then r else f j) = r then c else bc (if j = j then r else f j))) _; rw [hrj]; exact hsub) (by show ¬ sRs D' (if j = j then r else f j) (if (if j = j then r else f j) = r then c else bc (if j = j then r else f j)) = []; rw [hrj]; exact hne0)
/-- what a move's writes leave -/
theorem mv_D {D : Nat → Nat} {r l s : Nat} {t : List Nat} (hr : r < 16) (hs : s < 16) (hrs : ¬ r = s) (hl : l < 4) (ht : t.length ≤ 128) : (∀ i, i < t.length → ¬ i = 2 → dWs D (mvW r l s t) (128 * r + i) = gB0 t i) ∧ oB (dWs D (mvW r l s t)) r = l + 1 ∧ oB (dWs D (mvW r l s t)) s = 0 ∧ (∀ q, q < 16 → ¬ q = s → ¬ q = r → oB (dWs D (mvW r l s t)) q = oB D q) ∧ ∀ q, q < 16 → ¬ q = r → ∀ i, i < 128 → ¬ i = 2 → dWs D (mvW r l s t) (128 * q + i) = D (128 * q + i) := by
  have e : dWs D (mvW r l s t) = dW (dW (dWs D (spW r 0 (up32 t.length) t 4 0)) (128 * r + 2) 1 (gB0 [(l + 1) / 2 ^ 0 % 256])) (128 * s + 2) 1 (gB0 [0 / 2 ^ 0 % 256]) := by
    unfold mvW
    rw [dWs_app]
    rfl
  have hu : t.length ≤ up32 t.length ∧ up32 t.length ≤ 128 := by
    unfold up32
    omega
  have h1 : ∀ x, dWs D (spW r 0 (up32 t.length) t 4 0) x = if 128 * r + 0 ≤ x ∧ x < 128 * r + up32 t.length then gB0 t (x - 128 * r - 0) else D x := spW_D 4 (Nat.le_refl 0) (Nat.zero_le _) (fun _ => by omega)
  have ho1 : ∀ q, ¬ q = r → ∀ i, i < 128 → dWs D (spW r 0 (up32 t.length) t 4 0) (128 * q + i) = D (128 * q + i) := fun q hq i hi => by
    rw [h1, if_neg (by omega)]
  have g1 : gB0 [(l + 1) / 2 ^ 0 % 256] 0 = l + 1 := by
    show (l + 1) / 2 ^ 0 % 256 = l + 1
    rw [Nat.pow_zero, Nat.div_one, Nat.mod_eq_of_lt (by omega)]
  rw [e]
  refine ⟨fun i hi h2 => ?_, ?_, ?_, fun q hq hqs hqr => ?_, fun q hq hqr i hi h2 => ?_⟩
  · rw [ow_x _ (by omega) h2, ow_x _ (by omega) h2, h1, if_pos (by omega), show 128 * r + i - 128 * r - 0 = i by omega]
  · rw [ow_o (v := 0) _ rfl, if_neg hrs, ow_o (v := l + 1) _ g1, if_pos rfl]
  · rw [ow_o (v := 0) _ rfl, if_pos rfl]
  · rw [ow_o (v := 0) _ rfl, if_neg hqs, ow_o (v := l + 1) _ g1, if_neg hqr]
    exact ho1 q hqr 2 (by decide)
  · rw [ow_x _ hi h2, ow_x _ hi h2]
    exact ho1 q hqr i hi
