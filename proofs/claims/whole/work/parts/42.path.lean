/-! tellPath, path -/
theorem path_loop (N : Nat) {A : Nat → Nat} {m : Nat} {h : hS} (M : MO A m h) (G : Nat → Nat → Int32) {C : Cs} (s : RS A m h G C) {c : Nat} (hc : c < 4) {x : Int} (hx : -100000 ≤ x ∧ x ≤ 100000) (hw : was A G (C c).2.1 (C c).2.2 (-1) (C c).1) (F : Nat → Int32) : ∀ (i fu : Nat), i ≤ (C c).1 → i < fu → f_M_tellPath_23 N fu (w_i h (va_up G (A 30) (pRow F (zPd (C c).2.1 (C c).2.2 (C c).1 x) (C c).1 i))) m (iI c) (iI ((i : Int) - 1)) = some ((), w_i h (va_up G (A 30) (pRow F (zPd (C c).2.1 (C c).2.2 (C c).1 x) (C c).1 0))) := by
  have m2 : (2, 50, 644) ∈ mrows := by decide
  have m10 : (10, 50, 40) ∈ mrows := by decide
  have m11 : (11, 50, 40) ∈ mrows := by decide
  have m30 : (30, 50, 41) ∈ mrows := by decide
  have n302 : A 2 ≠ A 30 := M.nn m2 m30 (by decide)
  have n3010 : A 10 ≠ A 30 := M.nn m10 m30 (by decide)
  have n3011 : A 11 ≠ A 30 := M.nn m11 m30 (by decide)
  intro i
  induction i with
  | zero =>
    intro fu hi hfu
    obtain ⟨fu, rfl⟩ : ∃ q, fu = q + 1 := ⟨fu - 1, by omega⟩
    unfold f_M_tellPath_23
    rw [if_pos (show iI (((0 : Nat) : Int) - 1) < (0 : Int32) from (iI_lt (b := 0) (by omega) (by omega)).mpr (by omega))]
  | succ i ih =>
    intro fu hi hfu
    obtain ⟨fu, rfl⟩ : ∃ q, fu = q + 1 := ⟨fu - 1, by omega⟩
    obtain ⟨v, hv⟩ : ∃ v, v = zPd (C c).2.1 (C c).2.2 (C c).1 x := ⟨_, rfl⟩
    obtain ⟨s1, s2, s3, sk, sY, sn⟩ := s.st hc (i := i) (by omega)
    have b1 := zPd_b s hc hx ((C c).1 - (i + 1)) (by omega)
    have tv := zTurn_v (s.inv hc i (by omega)).1
    have t0 := zTurn_rng (zT (C c).2.1 (C c).2.2 (-1) i) 0
    have t1 := zTurn_rng (zT (C c).2.1 (C c).2.2 (-1) i) 1
    have hwi := hw i (by omega)
    have step : v ((C c).1 - i) = zBack ((C c).2.1 i).1 ((C c).2.1 i).2.1 ((C c).2.1 i).2.2 (zTurn (zT (C c).2.1 (C c).2.2 (-1) i) 0) (zTurn (zT (C c).2.1 (C c).2.2 (-1) i) 1) (v ((C c).1 - (i + 1))) := by
      rw [hv, show (C c).1 - i = ((C c).1 - (i + 1)) + 1 by omega, zPd, show (C c).1 - ((C c).1 - (i + 1) + 1) = i by omega]
    rw [← hv] at ih b1 ⊢
    obtain ⟨y, hy⟩ : ∃ y, y = v ((C c).1 - (i + 1)) := ⟨_, rfl⟩
    rw [← hy] at step b1
    have nb := zNear_b (y := y) (B := 200000) tv.1 tv.2 (by omega) (by omega)
    obtain ⟨U, hU⟩ : ∃ U, U = pRow F v (C c).1 (i + 1) := ⟨_, rfl⟩
    have hUi : U (i + 1) = iI y := by
      rw [hU, hy]
      unfold pRow
      rw [if_pos (by omega)]
    have done : ∀ z : Int, z = v ((C c).1 - i) → f_M_tellPath_197 N (f_M_tellPath_23 N fu) (w_i h (va_up G (A 30) (upd U i (iI z)))) m (iI c) (iI i) = some ((), w_i h (va_up G (A 30) (pRow F v (C c).1 0))) := fun z hz => by
      unfold f_M_tellPath_197
      simp only [bn]
      rw [hz, hU, pRow_upd F v (by omega), show (-1 : Int32) = iI (-1) from rfl, iI_add, show (i : Int) + -1 = (i : Int) - 1 by omega]
      exact ih fu (by omega) (by omega)
    have wr : ∀ (vv : Int32) (f : hS → Option (Unit × hS)), uI (w_i h (va_up G (A 30) U)) (some (A 30)) (iI i) vv f = f (w_i h (va_up G (A 30) (upd U i vv))) := fun vv f => by
      rw [uI_iI ((M.wi _).ro m30) (by omega) (by omega) (by omega), s_i_wi, show ((i : Int)).toNat = i by omega, show va_up G (A 30) U (A 30) = U by simp [va_up], zu_up]
    rw [← hU]
    have r2 : va_up G (A 30) U (A 2) = G (A 2) := by simp [va_up, n302]
    have sa : ∀ w : Nat, w < 4 → f_M_stepAt N (w_i h (va_up G (A 30) U)) m (iI c) (iI i) (iI w) = some (G (A 2) (161 * c + 1 + 4 * i + w), w_i h (va_up G (A 30) U)) := fun w hw => by rw [stepAt_is N M _ hc (by omega) hw, r2]
    have sa0 := sa 0 (by omega)
    have sa1 := sa 1 (by omega)
    have sa2 := sa 2 (by omega)
    rw [show iI ((0 : Nat) : Int) = (0 : Int32) from rfl, show 161 * c + 1 + 4 * i + 0 = 161 * c + 1 + 4 * i by omega, s1] at sa0
    rw [show iI ((1 : Nat) : Int) = (1 : Int32) from rfl, s2] at sa1
    rw [show iI ((2 : Nat) : Int) = (2 : Int32) from rfl, s3] at sa2
    unfold f_M_tellPath_23
    rw [show ((i + 1 : Nat) : Int) - 1 = (i : Int) by omega, if_neg (show ¬ iI (i : Int) < (0 : Int32) from fun z => absurd ((iI_lt (b := 0) (by omega) (by omega)).mp z) (by omega)), gR_at (M.wi _) m30]
    rw [show iI (i : Int) + (1 : Int32) = iI ((i + 1 : Nat) : Int) by rw [show (1 : Int32) = iI 1 from rfl, iI_add]; congr 1, aI_iI ((M.wi _).ro m30) (by omega) (by omega) (by omega), h_i_wi, show va_up G (A 30) U (A 30) = U by simp [va_up], show (((i + 1 : Nat) : Int)).toNat = i + 1 by omega, hUi, cv_at (M.wi _), sa1]
    simp only [cl]
    rw [gR_at (M.wi _) m10, aI_iI ((M.wi _).ro m10) (by omega) (by omega) (by omega), h_i_wi, show va_up G (A 30) U (A 10) = G (A 10) by simp [va_up, n3010], show ((i : Int)).toNat = i by omega, hwi.1, gR_at (M.wi _) m11, aI_iI ((M.wi _).ro m11) (by omega) (by omega) (by omega), h_i_wi, show va_up G (A 30) U (A 11) = G (A 11) by simp [va_up, n3011], show ((i : Int)).toNat = i by omega, hwi.2, nearest_is N _ (by omega) (by omega) (by omega)]
    simp only []
    rw [cv_at (M.wi _), sa0]
    simp only [cl]
    obtain ⟨g, hg⟩ : ∃ g, g = zNear (zTurn (zT (C c).2.1 (C c).2.2 (-1) i) 0) (zTurn (zT (C c).2.1 (C c).2.2 (-1) i) 1) y := ⟨_, rfl⟩
    rw [← hg] at nb ⊢
    unfold zBack at step
    rw [← hg] at step
    obtain ⟨k0, k1, k3, k4, k7⟩ := sk
    have ne : ∀ q : Int, 0 ≤ q → q ≤ 8 → ((C c).2.1 i).1 ≠ q → ¬ iI ((C c).2.1 i).1 = iI q := fun q q0 q8 e z => e ((iI_eq (by omega) (by omega)).mp z)
    by_cases c3 : ((C c).2.1 i).1 = 3
    · rw [if_pos (show iI ((C c).2.1 i).1 = (3 : Int32) by rw [c3]; rfl), gR_at (M.wi _) m30, iI_sub, wr]
      rw [if_pos c3] at step
      exact done _ step.symm
    rw [if_neg (show ¬ iI ((C c).2.1 i).1 = (3 : Int32) from ne 3 (by omega) (by omega) c3)]
    rw [if_neg c3] at step
    by_cases c4 : ((C c).2.1 i).1 = 4
    · have k4' := k4 c4
      rw [if_pos (show iI ((C c).2.1 i).1 = (4 : Int32) by rw [c4]; rfl), gR_at (M.wi _) m30, cv_at (M.wi _), sa2]
      simp only [cl]
      rw [iI_sub, iI_add, nearest_is N _ (by omega) (by omega) (by omega)]
      simp only []
      rw [wr]
      rw [if_pos c4] at step
      exact done _ step.symm
    rw [if_neg (show ¬ iI ((C c).2.1 i).1 = (4 : Int32) from ne 4 (by omega) (by omega) c4)]
    rw [if_neg c4] at step
    by_cases c5 : ((C c).2.1 i).1 = 5
    · rw [if_pos (show iI ((C c).2.1 i).1 = (5 : Int32) by rw [c5]; rfl), gR_at (M.wi _) m30, jmn_is (by omega) (by omega), wr]
      rw [if_pos c5] at step
      exact done _ step.symm
    rw [if_neg (show ¬ iI ((C c).2.1 i).1 = (5 : Int32) from ne 5 (by omega) (by omega) c5)]
    rw [if_neg c5] at step
    by_cases c6 : ((C c).2.1 i).1 = 6
    · rw [if_pos (show iI ((C c).2.1 i).1 = (6 : Int32) by rw [c6]; rfl), gR_at (M.wi _) m30, jmx_is (by omega) (by omega), wr]
      rw [if_pos c6] at step
      exact done _ step.symm
    rw [if_neg (show ¬ iI ((C c).2.1 i).1 = (6 : Int32) from ne 6 (by omega) (by omega) c6), gR_at (M.wi _) m30, wr]
    rw [if_neg c6] at step
    exact done _ step.symm
