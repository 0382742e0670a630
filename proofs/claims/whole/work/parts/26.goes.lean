/-! clear, putsOn, the weights' sum, goes' verdict -/
theorem clear_loop (N : Nat) {h : hS} {a len : Nat} (ha : ro h a len) (hl : len < 2 ^ 31) : ∀ (m n j : Nat), j + m = len → m < n → f_M_clear_2 N n (s_w h a (upto (h_i h a) (fun _ => 0) j)) a (nI j) = some ((), s_w h a (upto (h_i h a) (fun _ => 0) len)) := by
  intro m
  induction m with
  | zero =>
    intro n j hj hn
    obtain ⟨n, rfl⟩ : ∃ q, n = q + 1 := ⟨n - 1, by omega⟩
    rw [show j = len by omega]
    unfold f_M_clear_2
    rw [lnA_at (ha.sm (sm_w _ _ _)), if_pos (nI_le (Nat.le_refl _) hl)]
  | succ m ih =>
    intro n j hj hn
    obtain ⟨n, rfl⟩ : ∃ q, n = q + 1 := ⟨n - 1, by omega⟩
    have e := upto_upd (h_i h a) (fun _ => 0) j
    unfold f_M_clear_2
    rw [lnA_at (ha.sm (sm_w _ _ _)), if_neg (nI_ge (by omega) hl), uI_at (ha.sm (sm_w _ _ _)) (by omega) hl]
    simp only [bn]
    rw [s_w_i, e, nI_1]
    exact ih n (j + 1) (by omega) (by omega)
theorem clear_is (N : Nat) {h : hS} {a len : Nat} (hN : len < N) (ha : ro h a len) (hl : len < 2 ^ 31) : f_M_clear N h a = some ((), s_w h a (upto (h_i h a) (fun _ => 0) len)) := by
  have := clear_loop N ha hl len N 0 (by omega) hN
  rw [upto_0, s_w_self] at this
  exact this
/-- to the first j entries of T those of U are added -/
def addU (T U : Nat → Int32) (j : Nat) : Nat → Int32 := upto T (fun k => T k + U k) j
theorem putsOn_loop (N : Nat) {A : Nat → Nat} {m : Nat} {h : hS} (M : MO A m h) {b : Nat} (hb : ro h b 10003) (hab : A 4 ≠ b) : ∀ (q n j : Nat), j + q = 10003 → q < n → f_M_putsOn_2 N n (s_w h (A 4) (addU (h_i h (A 4)) (h_i h b) j)) m b (nI j) = some ((), s_w h (A 4) (addU (h_i h (A 4)) (h_i h b) 10003)) := by
  have m4 : (4, 50, 10003) ∈ mrows := by decide
  have Mw : ∀ T, MO A m (s_w h (A 4) T) := fun T => M
  intro q
  induction q with
  | zero =>
    intro n j hj hn
    obtain ⟨n, rfl⟩ : ∃ q, n = q + 1 := ⟨n - 1, by omega⟩
    rw [show j = 10003 by omega]
    unfold f_M_putsOn_2
    rw [lnA_at (hb.sm (sm_w _ _ _)), if_pos (nI_le (Nat.le_refl _) (by omega))]
  | succ q ih =>
    intro n j hj hn
    obtain ⟨n, rfl⟩ : ∃ q, n = q + 1 := ⟨n - 1, by omega⟩
    have e := upto_upd (h_i h (A 4)) (fun k => h_i h (A 4) k + h_i h b k) j
    unfold f_M_putsOn_2
    rw [lnA_at (hb.sm (sm_w _ _ _)), if_neg (nI_ge (by omega) (by omega)), gR_at (Mw _) m4, aI_at ((Mw _).ro m4) (by omega) (by omega), aI_at (hb.sm (sm_w _ _ _)) (by omega) (by omega), uI_at ((Mw _).ro m4) (by omega) (by omega)]
    simp only [bn]
    rw [h_i_sw, if_pos rfl, h_i_sw, if_neg (Ne.symm hab), s_w_i, show addU (h_i h (A 4)) (h_i h b) j j = h_i h (A 4) j by simp [addU, upto], nI_1]
    unfold addU at *
    rw [e]
    exact ih n (j + 1) (by omega) (by omega)
theorem putsOn_is (N : Nat) (hN : 10004 ≤ N) {A : Nat → Nat} {m : Nat} {h : hS} (M : MO A m h) {b : Nat} (G : Nat → Nat → Int32) (hb : ro h b 10003) (hab : A 4 ≠ b) : f_M_putsOn N (w_i h G) m b = some ((), w_i h (va_up G (A 4) (addU (G (A 4)) (G b) 10003))) := by
  have := putsOn_loop N (M.wi G) (b := b) hb hab 10003 N 0 (by omega) (by omega)
  rw [show addU (h_i (w_i h G) (A 4)) (h_i (w_i h G) b) 0 = h_i (w_i h G) (A 4) from upto_0 _ _, s_w_self, s_w_wi, h_i_wi] at this
  exact this
theorem sI_z (T : Nat → Int32) : ∀ (q s : Nat), sI T (2 + s) q = iI (zSum (dlist (zi T) 0 q s)) := by
  intro q
  induction q with
  | zero => intro s; rfl
  | succ q ih =>
    intro s
    rw [sI, dlist, zSum, show 2 + s + 1 = 2 + (s + 1) by omega, ih (s + 1), ← iI_add]
    show T (2 + s) + _ = iI (zi T (2 + s)) + _
    rw [show iI (zi T (2 + s)) = T (2 + s) from toInt_iI _]
/-- all weights of a table -/
def zWts (Z : Nat → Int) : Int := zSum (dlist Z 0 10001 0)
theorem weights_z (N : Nat) (hN : 10002 ≤ N) {h : hS} {a : Nat} (hr : ro h a 10003) : f_M_weights N h a = some (iI (zWts (zi (h_i h a))), h) := by
  rw [weights_is N hN hr, zWts, ← sI_z]
/-- a table that isn't TOO MUCH -/
abbrev zOk (Z : Nat → Int) : Prop := zWts Z ≤ 5000 ∧ zLeast Z ≤ 100000000
theorem goes_end (N : Nat) (hN : 10002 ≤ N) {A : Nat → Nat} {m : Nat} {h : hS} (M : MO A m h) (hb : sb (zi (h_i h (A 4)))) (hw : -2000000000 ≤ zWts (zi (h_i h (A 4))) ∧ zWts (zi (h_i h (A 4))) ≤ 2000000000) (hl : -9000000000000000000 ≤ zLeast (zi (h_i h (A 4))) ∧ zLeast (zi (h_i h (A 4))) ≤ 9000000000000000000) : f_M_goes_147 N h m = some (if h_i h m 9 = 0 ∧ zOk (zi (h_i h (A 4))) then 1 else 0, h) := by
  have m4 : (4, 50, 10003) ∈ mrows := by decide
  have f0 : ∀ b : Int32, b = 0 ∨ b = 1 → f_M_goes_186 N h b = some (b, h) := fun b hb => by unfold f_M_goes_186 bz; rw [if_pos hb]
  unfold f_M_goes_147
  rw [gI_at M]
  by_cases h9 : h_i h m 9 = 0
  · rw [if_pos h9, gR_at M m4]
    simp only [nn]
    rw [weights_z N hN (M.ro m4)]
    simp only [cl]
    by_cases h1 : 5000 < zWts (zi (h_i h (A 4)))
    · rw [if_pos (show (5000 : Int32) < _ from (iI_lt (a := 5000) (by omega) (by omega)).mpr h1), if_neg (show ¬ (h_i h m 9 = 0 ∧ zOk (zi (h_i h (A 4)))) from fun q => absurd q.2.1 (by omega))]
      exact f0 0 (Or.inl rfl)
    · rw [if_neg (show ¬ (5000 : Int32) < _ from fun q => h1 ((iI_lt (a := 5000) (by omega) (by omega)).mp q)), gR_at M m4]
      simp only []
      rw [leastOf_is N hN (M.ro m4) hb]
      simp only []
      by_cases h2 : 100000000 < zLeast (zi (h_i h (A 4)))
      · rw [if_pos (show (0 : Int32) < lg_cmp _ (100000000 : Int64) from (lg_gt0 (b := 100000000) (by omega) (by omega)).mpr h2), if_neg (show ¬ (h_i h m 9 = 0 ∧ zOk (zi (h_i h (A 4)))) from fun q => absurd q.2.2 (by omega))]
        exact f0 0 (Or.inl rfl)
      · rw [if_neg (show ¬ (0 : Int32) < lg_cmp _ (100000000 : Int64) from fun q => h2 ((lg_gt0 (b := 100000000) (by omega) (by omega)).mp q)), if_pos (show (h_i h m 9 = 0 ∧ zOk (zi (h_i h (A 4)))) from ⟨h9, by unfold zOk; omega⟩)]
        exact f0 1 (Or.inr rfl)
  · rw [if_neg h9, if_neg (fun q => h9 q.1)]
    exact f0 0 (Or.inl rfl)
