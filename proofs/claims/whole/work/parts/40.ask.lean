/-! slope, flat -/
theorem lI_sb (a b : Int) : lI a - lI b = lI (a - b) := (Int64.ofInt_sub a b).symm
theorem slope_S (N : Nat) (hN : 10004 ≤ N) {A : Nat → Nat} {m : Nat} {h : hS} (M : MO A m h) (G : Nat → Nat → Int32) {C : Cs} (s : RS A m h G C) {c x w : Int} (hc : i32 c) (hx : i32 x) (hw : i32 w) : aEnd A m h G (if ((0 ≤ c ∧ c ≤ 3) ∧ (0 ≤ w ∧ w ≤ 1)) ∧ (-100000 ≤ x ∧ x ≤ 100000) then iI (zVal (zC C c.toNat) (x + w) - zVal (zC C c.toNat) (x + w - 1)) else 0) (if (0 ≤ c ∧ c ≤ 3) ∧ (0 ≤ w ∧ w ≤ 1) then (if -100000 ≤ x ∧ x ≤ 100000 then 0 else 2) else 1) (f_M_slope N (w_i h G) m (iI c) (iI x) (iI w)) := by
  have m4 : (4, 50, 10003) ∈ mrows := by decide
  have c0 : va_up G m (upd (G m) 1 0) m 1 = 0 := by simp [va_up, upd]
  unfold f_M_slope
  rw [pI_at (M.wi G), s_i_wi, cv_at (M.wi _)]
  by_cases q : 0 ≤ c ∧ c ≤ 3
  · rw [isCost_y N _ _ q]
    simp only [cl]
    rw [if_neg (show ¬ (1 : Int32) = 0 by decide), iI_l hw.1 hw.2, show (0 : Int64) = lI 0 from rfl, show (1 : Int64) = lI 1 from rfl]
    by_cases q2 : 0 ≤ w ∧ w ≤ 1
    · rw [isIn_y N _ hw (i32_c (by omega) (by omega)) (i32_c (by omega) (by omega)) q2]
      simp only []
      rw [if_neg (show ¬ (1 : Int32) = 0 by decide)]
      by_cases q3 : -100000 ≤ x ∧ x ≤ 100000
      · have y : ((0 ≤ c ∧ c ≤ 3) ∧ (0 ≤ w ∧ w ≤ 1)) ∧ (-100000 ≤ x ∧ x ≤ 100000) := ⟨⟨q, q2⟩, q3⟩
        rw [if_pos y, if_pos y.1, if_pos q3, isX_y N _ q3]
        simp only []
        rw [if_neg (show ¬ (1 : Int32) = 0 by decide), cv_at (M.wi _)]
        obtain ⟨G', e, f, g, t, iv, ws⟩ := tell_S N hN M _ (s.fr M (fr.code 0)) (c := c.toNat) (by omega)
        rw [show ((c.toNat : Nat) : Int) = c by omega] at e
        rw [e]
        simp only [cl]
        have vv : ∀ z : Int, -200000 ≤ z ∧ z ≤ 200000 → f_M_valueAt N (w_i h G') (A 4) (iI z) = some (lI (zVal (zC C c.toNat) z), w_i h G') := fun z hz => by
          rw [valueAt_is N (by omega) ((M.wi _).ro m4) (by omega) (by omega), h_i_wi, zVal_congr t]
        by_cases w0 : w = 0
        · rw [if_pos (show iI w = (0 : Int32) by rw [w0]; rfl), gR_at (M.wi _) m4]
          simp only [nn]
          rw [vv x (by omega)]
          simp only []
          rw [gR_at (M.wi _) m4]
          simp only []
          rw [show (1 : Int32) = iI 1 from rfl, iI_sub, vv (x - 1) (by omega)]
          unfold f_M_slope_92
          simp only []
          rw [lI_sb, lI_i, w0, show x + 0 = x by omega]
          exact ⟨G', rfl, (fr.code 0).trans f, by rw [g, c0]⟩
        · rw [if_neg (show ¬ iI w = (0 : Int32) from fun z => w0 ((iI_eq (b := 0) (by omega) (by omega)).mp z)), gR_at (M.wi _) m4]
          simp only [nn]
          rw [show (1 : Int32) = iI 1 from rfl, iI_add, vv (x + 1) (by omega)]
          simp only []
          rw [gR_at (M.wi _) m4]
          simp only []
          rw [vv x (by omega)]
          unfold f_M_slope_92
          simp only []
          rw [lI_sb, lI_i, show w = 1 by omega, show x + 1 - 1 = x by omega]
          exact ⟨G', rfl, (fr.code 0).trans f, by rw [g, c0]⟩
      · have y : (0 ≤ c ∧ c ≤ 3) ∧ (0 ≤ w ∧ w ≤ 1) := ⟨q, q2⟩
        rw [if_neg (show ¬ (((0 ≤ c ∧ c ≤ 3) ∧ (0 ≤ w ∧ w ≤ 1)) ∧ (-100000 ≤ x ∧ x ≤ 100000)) from fun z => q3 z.2), if_pos y, if_neg q3, isX_n N _ hx q3]
        simp only []
        rw [if_pos trivial]
        exact fail_S N M (fr.code 0) 2 (fun v => v)
    · rw [if_neg (show ¬ (((0 ≤ c ∧ c ≤ 3) ∧ (0 ≤ w ∧ w ≤ 1)) ∧ (-100000 ≤ x ∧ x ≤ 100000)) from fun z => q2 z.1.2), if_neg (show ¬ ((0 ≤ c ∧ c ≤ 3) ∧ (0 ≤ w ∧ w ≤ 1)) from fun z => q2 z.2), isIn_n N _ hw (i32_c (by omega) (by omega)) (i32_c (by omega) (by omega)) q2]
      simp only []
      rw [if_pos trivial]
      exact fail_S N M (fr.code 0) 1 (fun v => v)
  · rw [if_neg (show ¬ (((0 ≤ c ∧ c ≤ 3) ∧ (0 ≤ w ∧ w ≤ 1)) ∧ (-100000 ≤ x ∧ x ≤ 100000)) from fun z => q z.1.1), if_neg (show ¬ ((0 ≤ c ∧ c ≤ 3) ∧ (0 ≤ w ∧ w ≤ 1)) from fun z => q z.1), isCost_n N _ _ hc q]
    simp only [cl]
    rw [if_pos trivial]
    exact fail_S N M (fr.code 0) 1 (fun v => v)
/-- a place, or NOWHERE -/
def zSome (z : Int) : Int := if -99999999 ≤ z ∧ z ≤ 99999999 then z else -10000000
theorem somewhere_is (N : Nat) (h : hS) {z : Int} (hz : i32 z) : f_M_somewhere N h (iI z) = some (iI (zSome z), h) := by
  unfold f_M_somewhere f_M_somewhere_21 zSome
  rw [iI_l hz.1 hz.2, show (-99999999 : Int64) = lI (-99999999) from rfl, show (99999999 : Int64) = lI 99999999 from rfl]
  by_cases q : -99999999 ≤ z ∧ z ≤ 99999999
  · rw [isIn_y N _ hz (i32_c (by omega) (by omega)) (i32_c (by omega) (by omega)) q, if_pos q]
    simp only [cl]
    rw [if_neg (show ¬ (1 : Int32) = 0 by decide)]
  · rw [isIn_n N _ hz (i32_c (by omega) (by omega)) (i32_c (by omega) (by omega)) q, if_neg q]
    simp only [cl]
    rw [if_pos trivial]
    rfl
/-- what flat answers of a table -/
def zFlat (Z : Nat → Int) (w : Int) : Int := if w = 0 then zSome (zTurn Z 0) else if w = 1 then zSome (zTurn Z 1) else if w = 2 then zNear (zTurn Z 0) (zTurn Z 1) 0 else if w = 3 then (zK Z).length else zWts Z
theorem flat_S (N : Nat) (hN : 10004 ≤ N) {A : Nat → Nat} {m : Nat} {h : hS} (M : MO A m h) (G : Nat → Nat → Int32) {C : Cs} (s : RS A m h G C) {c w : Int} (hc : i32 c) (hw : i32 w) : aEnd A m h G (if (0 ≤ c ∧ c ≤ 3) ∧ (0 ≤ w ∧ w ≤ 4) then iI (zFlat (zC C c.toNat) w) else 0) (if (0 ≤ c ∧ c ≤ 3) ∧ (0 ≤ w ∧ w ≤ 4) then 0 else 1) (f_M_flat N (w_i h G) m (iI c) (iI w)) := by
  have m4 : (4, 50, 10003) ∈ mrows := by decide
  have c0 : va_up G m (upd (G m) 1 0) m 1 = 0 := by simp [va_up, upd]
  unfold f_M_flat
  rw [pI_at (M.wi G), s_i_wi, cv_at (M.wi _)]
  by_cases q : 0 ≤ c ∧ c ≤ 3
  · rw [isCost_y N _ _ q]
    simp only [cl]
    rw [if_neg (show ¬ (1 : Int32) = 0 by decide), iI_l hw.1 hw.2, show (0 : Int64) = lI 0 from rfl, show (4 : Int64) = lI 4 from rfl]
    by_cases q2 : 0 ≤ w ∧ w ≤ 4
    · have y : (0 ≤ c ∧ c ≤ 3) ∧ (0 ≤ w ∧ w ≤ 4) := ⟨q, q2⟩
      rw [if_pos y, if_pos y, isIn_y N _ hw (i32_c (by omega) (by omega)) (i32_c (by omega) (by omega)) q2]
      simp only []
      rw [if_neg (show ¬ (1 : Int32) = 0 by decide), cv_at (M.wi _)]
      obtain ⟨G', e, f, g, t, iv, ws⟩ := tell_S N hN M _ (s.fr M (fr.code 0)) (c := c.toNat) (by omega)
      rw [show ((c.toNat : Nat) : Int) = c by omega] at e
      rw [e]
      simp only [cl]
      have iv' := t.symm.inv iv
      have r0 := zTurn_rng (zC C c.toNat) 0
      have r1 := zTurn_rng (zC C c.toNat) 1
      have fin : ∀ z : Int32, z = iI (zFlat (zC C c.toNat) w) → aEnd A m h G (iI (zFlat (zC C c.toNat) w)) 0 (some (z, w_i h G')) := fun z hz => ⟨G', by rw [hz], (fr.code 0).trans f, by rw [g, c0]⟩
      rw [gR_at (M.wi _) m4]
      simp only [nn]
      rw [flatFrom_is N (by omega) ((M.wi _).ro m4) (by rw [h_i_wi]; exact iv'.sb), h_i_wi, zTurn_congr t]
      simp only []
      rw [gR_at (M.wi _) m4]
      simp only []
      rw [flatTo_is N (by omega) ((M.wi _).ro m4) (by rw [h_i_wi]; exact iv'.sb), h_i_wi, zTurn_congr t]
      simp only []
      unfold f_M_flat_114
      by_cases w0 : w = 0
      · rw [if_pos (show iI w = (0 : Int32) by rw [w0]; rfl), somewhere_is N _ (i32_c (by omega) (by omega))]
        exact fin _ (by unfold zFlat; rw [if_pos w0])
      rw [if_neg (show ¬ iI w = (0 : Int32) from fun z => w0 ((iI_eq (b := 0) (by omega) (by omega)).mp z))]
      by_cases w1 : w = 1
      · rw [if_pos (show iI w = (1 : Int32) by rw [w1]; rfl), somewhere_is N _ (i32_c (by omega) (by omega))]
        exact fin _ (by unfold zFlat; rw [if_neg w0, if_pos w1])
      rw [if_neg (show ¬ iI w = (1 : Int32) from fun z => w1 ((iI_eq (b := 1) (by omega) (by omega)).mp z))]
      by_cases w2 : w = 2
      · rw [if_pos (show iI w = (2 : Int32) by rw [w2]; rfl), show (0 : Int32) = iI 0 from rfl, nearest_is N _ (by omega) (by omega) (by omega)]
        exact fin _ (by unfold zFlat; rw [if_neg w0, if_neg w1, if_pos w2])
      rw [if_neg (show ¬ iI w = (2 : Int32) from fun z => w2 ((iI_eq (b := 2) (by omega) (by omega)).mp z))]
      by_cases w3 : w = 3
      · rw [if_pos (show iI w = (3 : Int32) by rw [w3]; rfl), gR_at (M.wi _) m4]
        simp only []
        rw [kinks_is N (by omega) ((M.wi _).ro m4) (by rw [h_i_wi]; exact iv'.1.1), h_i_wi, zK_congr t]
        exact fin _ (by unfold zFlat; rw [if_neg w0, if_neg w1, if_neg w2, if_pos w3])
      rw [if_neg (show ¬ iI w = (3 : Int32) from fun z => w3 ((iI_eq (b := 3) (by omega) (by omega)).mp z)), gR_at (M.wi _) m4]
      simp only []
      rw [weights_z N (by omega) ((M.wi _).ro m4), h_i_wi, show zWts (zi (G' (A 4))) = zWts (zC C c.toNat) by unfold zWts; rw [dlist_congr t 10001 0 (by omega)]]
      exact fin _ (by unfold zFlat; rw [if_neg w0, if_neg w1, if_neg w2, if_neg w3])
    · have nq : ¬ ((0 ≤ c ∧ c ≤ 3) ∧ (0 ≤ w ∧ w ≤ 4)) := fun z => q2 z.2
      rw [if_neg nq, if_neg nq, isIn_n N _ hw (i32_c (by omega) (by omega)) (i32_c (by omega) (by omega)) q2]
      simp only []
      rw [if_pos trivial]
      exact fail_S N M (fr.code 0) 1 (fun v => v)
  · have nq : ¬ ((0 ≤ c ∧ c ≤ 3) ∧ (0 ≤ w ∧ w ≤ 4)) := fun z => q z.1
    rw [if_neg nq, if_neg nq, isCost_n N _ _ hc q]
    simp only [cl]
    rw [if_pos trivial]
    exact fail_S N M (fr.code 0) 1 (fun v => v)
