/-! alike -/
theorem alike_0 (N : Nat) {A : Nat → Nat} {m : Nat} {h : hS} (M : MO A m h) (n : Nat) (k : Int32) : f_M_alike_38 N (n + 1) h m 0 k = some (0, h) := by
  have m4 : (4, 50, 10003) ∈ mrows := by decide
  have e : f_M_alike_81 N h 0 = some (0, h) := by
    unfold f_M_alike_81 f_M_alike_90
    rw [if_pos rfl]
  unfold f_M_alike_38
  rw [gR_at M m4, lnA_at (M.ro m4), if_pos (show (0 : Int32) = 0 from rfl), e]
  split <;> rfl
theorem alike_loop (N : Nat) {A : Nat → Nat} {m : Nat} {h : hS} (M : MO A m h) : ∀ (q fu k : Nat), k + q = 10003 → q + 1 < fu → ∃ r, f_M_alike_38 N fu h m 1 (iI k) = some (r, h) ∧ ((∀ j, k ≤ j → j < 10003 → h_i h (A 4) j = h_i h (A 5) j) → r = 1) ∧ (¬ (∀ j, k ≤ j → j < 10003 → h_i h (A 4) j = h_i h (A 5) j) → r = 0) := by
  have m4 : (4, 50, 10003) ∈ mrows := by decide
  have m5 : (5, 50, 10003) ∈ mrows := by decide
  intro q
  induction q with
  | zero =>
    intro fu k hk hfu
    obtain ⟨fu, rfl⟩ : ∃ q, fu = q + 1 := ⟨fu - 1, by omega⟩
    refine ⟨1, ?_, fun _ => rfl, fun z => absurd (fun j h1 h2 => absurd h2 (by omega)) z⟩
    unfold f_M_alike_38 f_M_alike_81 f_M_alike_90
    rw [gR_at M m4, lnA_at (M.ro m4), nI_iI, if_pos ((iI_le (by omega) (by omega)).mpr (by omega)), if_neg (show ¬ (1 : Int32) = 0 by decide)]
  | succ q ih =>
    intro fu k hk hfu
    obtain ⟨fu, rfl⟩ : ∃ q, fu = q + 1 := ⟨fu - 1, by omega⟩
    unfold f_M_alike_38
    rw [gR_at M m4, lnA_at (M.ro m4), nI_iI, if_neg (fun z => absurd ((iI_le (by omega) (by omega)).mp z) (by omega)), if_neg (show ¬ (1 : Int32) = 0 by decide), gR_at M m4, aI_iI (M.ro m4) (by omega) (by omega) (by omega), gR_at M m5, aI_iI (M.ro m5) (by omega) (by omega) (by omega), show ((k : Int)).toNat = k by omega]
    unfold f_M_alike_74
    simp only [bn]
    rw [show iI (k : Int) + (1 : Int32) = iI ((k + 1 : Nat) : Int) by rw [show (1 : Int32) = iI 1 from rfl, iI_add]; congr 1]
    by_cases c : h_i h (A 4) k = h_i h (A 5) k
    · rw [if_pos c]
      obtain ⟨r, e, y, n⟩ := ih fu (k + 1) (by omega) (by omega)
      refine ⟨r, e, fun a => y (fun j h1 h2 => a j (by omega) h2), fun a => n (fun b => a (fun j h1 h2 => ?_))⟩
      by_cases jk : j = k
      · rw [jk]; exact c
      · exact b j (by omega) h2
    · rw [if_neg c]
      obtain ⟨fu, rfl⟩ : ∃ q, fu = q + 1 := ⟨fu - 1, by omega⟩
      exact ⟨0, alike_0 N M fu _, fun a => absurd (a k (Nat.le_refl _) (by omega)) c, fun _ => rfl⟩
theorem alike_S (N : Nat) (hN : 10010 ≤ N) {A : Nat → Nat} {m : Nat} {h : hS} (M : MO A m h) (G : Nat → Nat → Int32) {C : Cs} (s : RS A m h G C) {c d : Int} (hc : i32 c) (hd : i32 d) : (¬ ((0 ≤ c ∧ c ≤ 3) ∧ (0 ≤ d ∧ d ≤ 3)) → aEnd A m h G (0 : Int32) 1 (f_M_alike N (w_i h G) m (iI c) (iI d))) ∧ (((0 ≤ c ∧ c ≤ 3) ∧ (0 ≤ d ∧ d ≤ 3)) → ∃ r : Int32, (tEq (zC C c.toNat) (zC C d.toNat) → r = 1) ∧ (¬ tEq (zC C c.toNat) (zC C d.toNat) → r = 0) ∧ aEnd A m h G r 0 (f_M_alike N (w_i h G) m (iI c) (iI d))) := by
  have c0 : va_up G m (upd (G m) 1 0) m 1 = 0 := by simp [va_up, upd]
  have s0 := s.fr M (fr.code (A := A) (m := m) (G := G) 0)
  unfold f_M_alike f_M_alike_21
  rw [pI_at (M.wi G), s_i_wi, cv_at (M.wi _)]
  refine ⟨fun q => ?_, fun q => ?_⟩
  · by_cases q1 : 0 ≤ c ∧ c ≤ 3
    · have q2 : ¬ (0 ≤ d ∧ d ≤ 3) := fun z => q ⟨q1, z⟩
      rw [isCost_y N _ _ q1]
      simp only [cl]
      rw [if_neg (show ¬ (1 : Int32) = 0 by decide), cv_at (M.wi _), isCost_n N _ _ hd q2]
      simp only [cl]
      rw [if_pos trivial]
      exact fail_S N M (fr.code 0) 1 (fun v => v)
    · rw [isCost_n N _ _ hc q1]
      simp only [cl]
      rw [if_pos trivial]
      exact fail_S N M (fr.code 0) 1 (fun v => v)
  · obtain ⟨q1, q2⟩ := q
    rw [isCost_y N _ _ q1]
    simp only [cl]
    rw [if_neg (show ¬ (1 : Int32) = 0 by decide), cv_at (M.wi _), isCost_y N _ _ q2]
    simp only [cl]
    obtain ⟨G', e, f, g, t4, t5, i4, i5⟩ := tellBoth_S N (by omega) M _ s0 (c := c.toNat) (d := d.toNat) (by omega) (by omega)
    rw [show ((c.toNat : Nat) : Int) = c by omega, show ((d.toNat : Nat) : Int) = d by omega] at e
    rw [if_neg (show ¬ (1 : Int32) = 0 by decide), cv_at (M.wi _), e]
    simp only [cl]
    obtain ⟨r, e2, y, n⟩ := alike_loop N (M.wi G') 10003 N 0 (by omega) (by omega)
    rw [show iI ((0 : Nat) : Int) = (0 : Int32) from rfl] at e2
    rw [h_i_wi] at y n
    have to : tEq (zC C c.toNat) (zC C d.toNat) → ∀ j, 0 ≤ j → j < 10003 → G' (A 4) j = G' (A 5) j := fun z j _ hj => by
      have a : (G' (A 4) j).toInt = (G' (A 5) j).toInt := (t4 j hj).trans ((z j hj).trans (t5 j hj).symm)
      rw [← toInt_iI (G' (A 4) j), ← toInt_iI (G' (A 5) j), a]
    have fro : (∀ j, 0 ≤ j → j < 10003 → G' (A 4) j = G' (A 5) j) → tEq (zC C c.toNat) (zC C d.toNat) := fun z j hj => by
      rw [← t4 j hj, ← t5 j hj]
      unfold zi
      rw [z j (by omega) hj]
    exact ⟨r, fun z => y (to z), fun z => n (fun a => z (fro a)), G', e2, (fr.code 0).trans f, by rw [g, c0]⟩
