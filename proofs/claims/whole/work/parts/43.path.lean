/-! path, stretch -/
theorem pRow_n (F : Nat → Int32) (v : Nat → Int) (n : Nat) : upd F n (iI (v 0)) = pRow F v n n := by
  funext k
  by_cases h : k = n
  · subst h; simp [upd, pRow]
  · have c : ¬ (n ≤ k ∧ k ≤ n) := by omega
    unfold upd pRow
    rw [if_neg h, if_neg c]
theorem tellPath_S (N : Nat) (hN : 10004 ≤ N) {A : Nat → Nat} {m : Nat} {h : hS} (M : MO A m h) (G : Nat → Nat → Int32) {C : Cs} (s : RS A m h G C) {c : Nat} (hc : c < 4) {x : Int} (hx : -100000 ≤ x ∧ x ≤ 100000) : ∃ G', f_M_tellPath N (w_i h G) m (iI c) (iI x) = some ((), w_i h G') ∧ fr A m G G' ∧ G' m 1 = G m 1 ∧ tEq (zi (G' (A 4))) (zC C c) ∧ ∀ i, i ≤ (C c).1 → G' (A 30) i = iI (zPd (C c).2.1 (C c).2.2 (C c).1 x ((C c).1 - i)) := by
  have m4 : (4, 50, 10003) ∈ mrows := by decide
  have m30 : (30, 50, 41) ∈ mrows := by decide
  have n304 : A 4 ≠ A 30 := M.nn m4 m30 (by decide)
  have n30m : A 30 ≠ m := M.ne m30 (by decide)
  obtain ⟨G1, e, f, g, t, iv, ws⟩ := tell_S N hN M G s hc
  have s1 := s.fr M f
  have hn := (s1.2 c hc).1.2.1
  unfold f_M_tellPath
  rw [cv_at (M.wi _), e]
  simp only [cl]
  rw [cv_at (M.wi _), steps_is N M G1 s1 hc]
  simp only [cl]
  rw [gR_at (M.wi _) m30, uI_iI ((M.wi _).ro m30) (by omega) (by omega) (by omega), s_i_wi, show (((C c).1 : Int)).toNat = (C c).1 by omega]
  simp only [bn]
  have e0 : upd (G1 (A 30)) (C c).1 (iI x) = pRow (G1 (A 30)) (zPd (C c).2.1 (C c).2.2 (C c).1 x) (C c).1 (C c).1 := pRow_n _ (zPd (C c).2.1 (C c).2.2 (C c).1 x) _
  rw [e0, show (1 : Int32) = iI 1 from rfl, iI_sub, path_loop N M G1 s1 hc hx ws (G1 (A 30)) (C c).1 N (by omega) (by omega)]
  refine ⟨_, rfl, f.trans (fr.row (by decide) n30m _), ?_, ?_, fun i hi => ?_⟩
  · rw [show va_up G1 (A 30) (pRow (G1 (A 30)) (zPd (C c).2.1 (C c).2.2 (C c).1 x) (C c).1 0) m = G1 m by simp [va_up, Ne.symm n30m]]; exact g
  · rw [show va_up G1 (A 30) (pRow (G1 (A 30)) (zPd (C c).2.1 (C c).2.2 (C c).1 x) (C c).1 0) (A 4) = G1 (A 4) by simp [va_up, n304]]; exact t
  · rw [show va_up G1 (A 30) (pRow (G1 (A 30)) (zPd (C c).2.1 (C c).2.2 (C c).1 x) (C c).1 0) (A 30) = pRow (G1 (A 30)) (zPd (C c).2.1 (C c).2.2 (C c).1 x) (C c).1 0 by simp [va_up]]
    unfold pRow
    rw [if_pos (by omega)]
/-- the place of the PATH ahead of step i -/
def zPath (C : Cs) (c : Nat) (x : Int) (i : Nat) : Int := zPd (C c).2.1 (C c).2.2 (C c).1 x ((C c).1 - i)
theorem path_S (N : Nat) (hN : 10004 ≤ N) {A : Nat → Nat} {m : Nat} {h : hS} (M : MO A m h) (G : Nat → Nat → Int32) {C : Cs} (s : RS A m h G C) {c x i : Int} (hc : i32 c) (hx : i32 x) (hi : i32 i) : aEnd A m h G (if ((0 ≤ c ∧ c ≤ 3) ∧ (0 ≤ i ∧ i ≤ (C c.toNat).1)) ∧ (-100000 ≤ x ∧ x ≤ 100000) then iI (zPath C c.toNat x i.toNat) else 0) (if (0 ≤ c ∧ c ≤ 3) ∧ (0 ≤ i ∧ i ≤ (C c.toNat).1) then (if -100000 ≤ x ∧ x ≤ 100000 then 0 else 2) else 1) (f_M_path N (w_i h G) m (iI c) (iI x) (iI i)) := by
  have m30 : (30, 50, 41) ∈ mrows := by decide
  have c0 : va_up G m (upd (G m) 1 0) m 1 = 0 := by simp [va_up, upd]
  have s0 := s.fr M (fr.code (A := A) (m := m) (G := G) 0)
  unfold f_M_path
  rw [pI_at (M.wi G), s_i_wi, cv_at (M.wi _)]
  by_cases q : 0 ≤ c ∧ c ≤ 3
  · have hn := (s0.2 c.toNat (by omega)).1.2.1
    have st := steps_is N M _ s0 (c := c.toNat) (by omega)
    rw [show ((c.toNat : Nat) : Int) = c by omega] at st
    rw [isCost_y N _ _ q]
    simp only [cl]
    rw [if_neg (show ¬ (1 : Int32) = 0 by decide), cv_at (M.wi _), st]
    simp only [cl]
    rw [iI_l hi.1 hi.2, iI_l (by omega) (by omega), show (0 : Int64) = lI 0 from rfl]
    by_cases q2 : 0 ≤ i ∧ i ≤ ((C c.toNat).1 : Int)
    · have y1 : (0 ≤ c ∧ c ≤ 3) ∧ (0 ≤ i ∧ i ≤ ((C c.toNat).1 : Int)) := ⟨q, q2⟩
      rw [isIn_y N _ hi (i32_c (by omega) (by omega)) (i32_c (by omega) (by omega)) q2]
      simp only []
      rw [if_neg (show ¬ (1 : Int32) = 0 by decide)]
      by_cases q3 : -100000 ≤ x ∧ x ≤ 100000
      · have y : ((0 ≤ c ∧ c ≤ 3) ∧ (0 ≤ i ∧ i ≤ ((C c.toNat).1 : Int))) ∧ (-100000 ≤ x ∧ x ≤ 100000) := ⟨y1, q3⟩
        rw [if_pos y, if_pos y1, if_pos q3, isX_y N _ q3]
        simp only []
        rw [if_neg (show ¬ (1 : Int32) = 0 by decide), cv_at (M.wi _)]
        obtain ⟨G', e, f, g, t, pp⟩ := tellPath_S N hN M _ s0 (c := c.toNat) (by omega) q3
        rw [show ((c.toNat : Nat) : Int) = c by omega] at e
        rw [e]
        simp only [cl]
        rw [gR_at (M.wi _) m30, aI_iI ((M.wi _).ro m30) (by omega) (by omega) (by omega), h_i_wi, pp i.toNat (by omega)]
        exact ⟨G', rfl, (fr.code 0).trans f, by rw [g, c0]⟩
      · rw [if_neg (show ¬ (((0 ≤ c ∧ c ≤ 3) ∧ (0 ≤ i ∧ i ≤ ((C c.toNat).1 : Int))) ∧ (-100000 ≤ x ∧ x ≤ 100000)) from fun z => q3 z.2), if_pos y1, if_neg q3, isX_n N _ hx q3]
        simp only []
        rw [if_pos trivial]
        exact fail_S N M (fr.code 0) 2 (fun v => v)
    · rw [if_neg (show ¬ (((0 ≤ c ∧ c ≤ 3) ∧ (0 ≤ i ∧ i ≤ ((C c.toNat).1 : Int))) ∧ (-100000 ≤ x ∧ x ≤ 100000)) from fun z => q2 z.1.2), if_neg (show ¬ ((0 ≤ c ∧ c ≤ 3) ∧ (0 ≤ i ∧ i ≤ ((C c.toNat).1 : Int))) from fun z => q2 z.2), isIn_n N _ hi (i32_c (by omega) (by omega)) (i32_c (by omega) (by omega)) q2]
      simp only []
      rw [if_pos trivial]
      exact fail_S N M (fr.code 0) 1 (fun v => v)
  · rw [if_neg (show ¬ (((0 ≤ c ∧ c ≤ 3) ∧ (0 ≤ i ∧ i ≤ ((C c.toNat).1 : Int))) ∧ (-100000 ≤ x ∧ x ≤ 100000)) from fun z => q z.1.1), if_neg (show ¬ ((0 ≤ c ∧ c ≤ 3) ∧ (0 ≤ i ∧ i ≤ ((C c.toNat).1 : Int))) from fun z => q z.1), isCost_n N _ _ hc q]
    simp only [cl]
    rw [if_pos trivial]
    exact fail_S N M (fr.code 0) 1 (fun v => v)
/-- how far the PATH goes, from step i on (q steps) -/
def zWay (C : Cs) (c : Nat) (x : Int) : Nat → Nat → Int
  | 0, _ => 0
  | q + 1, i => (if zPath C c x (i + 1) - zPath C c x i < 0 then -(zPath C c x (i + 1) - zPath C c x i) else zPath C c x (i + 1) - zPath C c x i) + zWay C c x q (i + 1)
