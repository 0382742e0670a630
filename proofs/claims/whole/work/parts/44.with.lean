/-! stretch; a COST with another weight, or with a step left out -/
theorem jab_is {z : Int} (hz : -2147483647 ≤ z ∧ z ≤ 2147483647) : jab (iI z) = iI (if z < 0 then -z else z) := by
  unfold jab
  by_cases c : z < 0
  · rw [if_pos c, if_neg (show ¬ (0 : Int32) ≤ iI z from fun q => absurd ((iI_le (a := 0) (by omega) (by omega)).mp q) (by omega)), show (0 : Int32) = iI 0 from rfl, iI_sub]
    congr 1
    omega
  · rw [if_neg c, if_pos (show (0 : Int32) ≤ iI z from (iI_le (a := 0) (by omega) (by omega)).mpr (by omega))]
theorem stretch_loop (N : Nat) {A : Nat → Nat} {m : Nat} {h : hS} (M : MO A m h) (G : Nat → Nat → Int32) {C : Cs} (s : RS A m h G C) {c : Nat} (hc : c < 4) {x : Int} (hx : -100000 ≤ x ∧ x ≤ 100000) (hp : ∀ i, i ≤ (C c).1 → G (A 30) i = iI (zPath C c x i)) : ∀ (q fu i : Nat) (acc : Int), i + q = (C c).1 → q < fu → f_M_stretch_49 N fu (w_i h G) m (iI c) (iI acc) (iI i) = some (iI (acc + zWay C c x q i), w_i h G) := by
  have m30 : (30, 50, 41) ∈ mrows := by decide
  have hn := (s.2 c hc).1.2.1
  intro q
  induction q with
  | zero =>
    intro fu i acc hi hfu
    obtain ⟨fu, rfl⟩ : ∃ q, fu = q + 1 := ⟨fu - 1, by omega⟩
    unfold f_M_stretch_49
    rw [cv_at (M.wi _), steps_is N M G s hc]
    simp only [cl]
    rw [if_pos ((iI_le (by omega) (by omega)).mpr (by omega)), zWay, show acc + 0 = acc by omega]
  | succ q ih =>
    intro fu i acc hi hfu
    obtain ⟨fu, rfl⟩ : ∃ q, fu = q + 1 := ⟨fu - 1, by omega⟩
    have b0 := zPd_b s hc hx ((C c).1 - i) (by omega)
    have b1 := zPd_b s hc hx ((C c).1 - (i + 1)) (by omega)
    rw [show zPd (C c).2.1 (C c).2.2 (C c).1 x ((C c).1 - i) = zPath C c x i from rfl] at b0
    rw [show zPd (C c).2.1 (C c).2.2 (C c).1 x ((C c).1 - (i + 1)) = zPath C c x (i + 1) from rfl] at b1
    unfold f_M_stretch_49
    rw [cv_at (M.wi _), steps_is N M G s hc]
    simp only [cl]
    rw [if_neg (fun z => absurd ((iI_le (by omega) (by omega)).mp z) (by omega)), gR_at (M.wi _) m30, show iI (i : Int) + (1 : Int32) = iI ((i + 1 : Nat) : Int) by rw [show (1 : Int32) = iI 1 from rfl, iI_add]; congr 1, aI_iI ((M.wi _).ro m30) (by omega) (by omega) (by omega), gR_at (M.wi _) m30, aI_iI ((M.wi _).ro m30) (by omega) (by omega) (by omega), h_i_wi, show (((i + 1 : Nat) : Int)).toNat = i + 1 by omega, show ((i : Int)).toNat = i by omega, hp i (by omega), hp (i + 1) (by omega), iI_sub, jab_is (by omega), iI_add]
    simp only [bn]
    rw [ih fu (i + 1) _ (by omega) (by omega), zWay]
    congr 3
    omega
theorem stretch_S (N : Nat) (hN : 10004 ≤ N) {A : Nat → Nat} {m : Nat} {h : hS} (M : MO A m h) (G : Nat → Nat → Int32) {C : Cs} (s : RS A m h G C) {c x : Int} (hc : i32 c) (hx : i32 x) : aEnd A m h G (if (0 ≤ c ∧ c ≤ 3) ∧ (-100000 ≤ x ∧ x ≤ 100000) then iI (zWay C c.toNat x (C c.toNat).1 0) else 0) (if 0 ≤ c ∧ c ≤ 3 then (if -100000 ≤ x ∧ x ≤ 100000 then 0 else 2) else 1) (f_M_stretch N (w_i h G) m (iI c) (iI x)) := by
  have c0 : va_up G m (upd (G m) 1 0) m 1 = 0 := by simp [va_up, upd]
  have s0 := s.fr M (fr.code (A := A) (m := m) (G := G) 0)
  have bad : ¬ ((0 ≤ c ∧ c ≤ 3) ∧ (-100000 ≤ x ∧ x ≤ 100000)) → aEnd A m h G (0 : Int32) (if 0 ≤ c ∧ c ≤ 3 then (if -100000 ≤ x ∧ x ≤ 100000 then 0 else 2) else 1) (f_M_stretch_20 N (w_i h (va_up G m (upd (G m) 1 0))) m (iI c)) := fun hq => by
    unfold f_M_stretch_20 f_M_stretch_34
    rw [cv_at (M.wi _)]
    by_cases q : 0 ≤ c ∧ c ≤ 3
    · rw [isCost_y N _ _ q, if_pos q, if_neg (fun q2 => hq ⟨q, q2⟩)]
      simp only [cl]
      rw [if_neg (show ¬ (1 : Int32) = 0 by decide)]
      exact fail_S N M (fr.code 0) 2 (fun v => v)
    · rw [isCost_n N _ _ hc q, if_neg q]
      simp only [cl]
      rw [if_pos trivial]
      exact fail_S N M (fr.code 0) 1 (fun v => v)
  unfold f_M_stretch
  rw [pI_at (M.wi G), s_i_wi, cv_at (M.wi _)]
  by_cases q : 0 ≤ c ∧ c ≤ 3
  · rw [isCost_y N _ _ q]
    simp only [cl]
    rw [if_neg (show ¬ (1 : Int32) = 0 by decide)]
    by_cases q2 : -100000 ≤ x ∧ x ≤ 100000
    · rw [isX_y N _ q2, if_pos (⟨q, q2⟩ : (0 ≤ c ∧ c ≤ 3) ∧ (-100000 ≤ x ∧ x ≤ 100000)), if_pos q, if_pos q2]
      simp only []
      rw [if_neg (show ¬ (1 : Int32) = 0 by decide), cv_at (M.wi _)]
      obtain ⟨G', e, f, g, t, pp⟩ := tellPath_S N hN M _ s0 (c := c.toNat) (by omega) q2
      have hn := (s0.2 c.toNat (by omega)).1.2.1
      have lp := stretch_loop N M G' (s0.fr M f) (c := c.toNat) (by omega) q2 pp (C c.toNat).1 N 0 0 (by omega) (by omega)
      rw [show ((c.toNat : Nat) : Int) = c by omega] at e lp
      rw [e]
      simp only [cl]
      rw [show iI ((0 : Nat) : Int) = (0 : Int32) from rfl, show iI (0 : Int) = (0 : Int32) from rfl] at lp
      rw [lp, show (0 : Int) + zWay C c.toNat x (C c.toNat).1 0 = zWay C c.toNat x (C c.toNat).1 0 by omega]
      exact ⟨G', rfl, (fr.code 0).trans f, by rw [g, c0]⟩
    · have nq : ¬ ((0 ≤ c ∧ c ≤ 3) ∧ (-100000 ≤ x ∧ x ≤ 100000)) := fun z => q2 z.2
      rw [isX_n N _ hx q2]
      simp only []
      rw [if_pos trivial, show (if (0 ≤ c ∧ c ≤ 3) ∧ (-100000 ≤ x ∧ x ≤ 100000) then iI (zWay C c.toNat x (C c.toNat).1 0) else 0) = 0 from if_neg nq]
      exact bad nq
  · have nq : ¬ ((0 ≤ c ∧ c ≤ 3) ∧ (-100000 ≤ x ∧ x ≤ 100000)) := fun z => q z.1
    rw [isCost_n N _ _ hc q]
    simp only [cl]
    rw [if_pos trivial, show (if (0 ≤ c ∧ c ≤ 3) ∧ (-100000 ≤ x ∧ x ≤ 100000) then iI (zWay C c.toNat x (C c.toNat).1 0) else 0) = 0 from if_neg nq]
    exact bad nq
