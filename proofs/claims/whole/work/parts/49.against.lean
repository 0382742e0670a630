/-! against -/
/-- where a table stands against a slope -/
def zStand (Z : Nat → Int) (s : Int) : Int := zNear (zTurn Z s) (zTurn Z (s + 1)) 0
def zAgainst (Z : Nat → Int) (s : Int) : Int := s * zStand Z s - zVal Z (zStand Z s)
theorem zNear_r {a b x : Int} (ha : -100000000 ≤ a ∧ a ≤ 100000000) (hb : -100000000 ≤ b ∧ b ≤ 100000000) (hx : -100000000 ≤ x ∧ x ≤ 100000000) : -100000000 ≤ zNear a b x ∧ zNear a b x ≤ 100000000 := by
  unfold zNear
  split
  · omega
  · split <;> omega
theorem zStand_r (Z : Nat → Int) (s : Int) : -100000000 ≤ zStand Z s ∧ zStand Z s ≤ 100000000 := zNear_r (zTurn_rng _ _) (zTurn_rng _ _) (by omega)
theorem zStand_congr {Z Y : Nat → Int} (h : tEq Z Y) (s : Int) : zStand Z s = zStand Y s := by
  unfold zStand
  rw [zTurn_congr h, zTurn_congr h]
theorem zAgainst_congr {Z Y : Nat → Int} (h : tEq Z Y) (s : Int) : zAgainst Z s = zAgainst Y s := by
  unfold zAgainst
  rw [zStand_congr h, zVal_congr h]
theorem standsAt_is (N : Nat) (hN : 10002 ≤ N) {h : hS} {a : Nat} (hr : ro h a 10003) (hS : sb (zi (h_i h a))) {s : Int} (hs : -999999 ≤ s ∧ s ≤ 999999) : f_M_standsAt N h a (iI s) = some (iI (zStand (zi (h_i h a)) s), h) := by
  have r0 := zTurn_rng (zi (h_i h a)) s
  have r1 := zTurn_rng (zi (h_i h a)) (s + 1)
  unfold f_M_standsAt
  rw [turnsTo_is N hN hr hS (by omega)]
  simp only [cl]
  rw [show (1 : Int32) = iI 1 from rfl, iI_add, turnsTo_is N hN hr hS (by omega)]
  simp only []
  rw [show (0 : Int32) = iI 0 from rfl, nearest_is N _ (by omega) (by omega) (by omega)]
  rfl
theorem againstOf_is (N : Nat) (hN : 10002 ≤ N) {h : hS} {a : Nat} (hr : ro h a 10003) (hS : sb (zi (h_i h a))) {s : Int} (hs : -999999 ≤ s ∧ s ≤ 999999) : f_M_againstOf N h a (iI s) = some (lI (zAgainst (zi (h_i h a)) s), h) := by
  have r := zStand_r (zi (h_i h a)) s
  unfold f_M_againstOf
  rw [standsAt_is N hN hr hS hs]
  simp only [cl]
  rw [valueAt_is N hN hr (by omega) (by omega)]
  simp only []
  rw [iI_l (by omega) (by omega), iI_l (by omega) (by omega), lI_mul, lI_sub]
  rfl
theorem isBound_is (N : Nat) (hN : 10002 ≤ N) {h : hS} {a : Nat} (hr : ro h a 10003) (hS : sb (zi (h_i h a))) {s : Int} (hs : -999999 ≤ s ∧ s ≤ 999999) : f_M_isBound N h a (iI s) = some (if zi (h_i h a) 0 ≤ s ∧ s ≤ zS (zi (h_i h a)) 10001 then 1 else 0, h) := by
  have b0 := hS 0 (by omega)
  have b1 := hS 10001 (by omega)
  have e0 : zS (zi (h_i h a)) 0 = zi (h_i h a) 0 := rfl
  have ez : h_i h a 0 = iI (zi (h_i h a) 0) := (toInt_iI _).symm
  unfold f_M_isBound f_M_isBound_19 f_M_isBound_20 f_M_last bz
  rw [aI_0 hr (by omega) (by omega), aI_0 hr (by omega) (by omega), ez]
  by_cases c0 : s < zi (h_i h a) 0
  · rw [if_pos ((iI_lt (by omega) (by omega)).mpr c0), if_neg (show ¬ (zi (h_i h a) 0 ≤ s ∧ s ≤ zS (zi (h_i h a)) 10001) by omega), if_pos (Or.inl rfl)]
  · rw [if_neg (fun z => c0 ((iI_lt (by omega) (by omega)).mp z)), weights_z N hN hr]
    simp only [cl]
    rw [iI_add, ← zS_all]
    by_cases c1 : zS (zi (h_i h a)) 10001 < s
    · rw [if_pos ((iI_lt (by omega) (by omega)).mpr c1), if_neg (show ¬ (zi (h_i h a) 0 ≤ s ∧ s ≤ zS (zi (h_i h a)) 10001) by omega), if_pos (Or.inl trivial)]
    · rw [if_neg (fun z => c1 ((iI_lt (by omega) (by omega)).mp z)), if_pos (show zi (h_i h a) 0 ≤ s ∧ s ≤ zS (zi (h_i h a)) 10001 by omega), if_pos (Or.inr trivial)]
/-- what against answers of a table -/
def zAg (Z : Nat → Int) (s w : Int) : Int := if Z 0 ≤ s ∧ s ≤ zS Z 10001 then (if w = 0 then zAgainst Z s else zStand Z s) else -10000000
theorem against_S (N : Nat) (hN : 10004 ≤ N) {A : Nat → Nat} {m : Nat} {h : hS} (M : MO A m h) (G : Nat → Nat → Int32) {C : Cs} (s : RS A m h G C) {c x w : Int} (hc : i32 c) (hx : i32 x) (hw : i32 w) : aEnd A m h G (if ((0 ≤ c ∧ c ≤ 3) ∧ (0 ≤ w ∧ w ≤ 1)) ∧ (-200 ≤ x ∧ x ≤ 200) then lI (zAg (zC C c.toNat) x w) else 0) (if (0 ≤ c ∧ c ≤ 3) ∧ (0 ≤ w ∧ w ≤ 1) then (if -200 ≤ x ∧ x ≤ 200 then 0 else 2) else 1) (f_M_against N (w_i h G) m (iI c) (iI x) (iI w)) := by
  have m4 : (4, 50, 10003) ∈ mrows := by decide
  have c0 : va_up G m (upd (G m) 1 0) m 1 = 0 := by simp [va_up, upd]
  unfold f_M_against f_M_against_23
  rw [pI_at (M.wi G), s_i_wi, cv_at (M.wi _)]
  by_cases q : 0 ≤ c ∧ c ≤ 3
  · rw [isCost_y N _ _ q]
    simp only [cl]
    rw [if_neg (show ¬ (1 : Int32) = 0 by decide), iI_l hw.1 hw.2, iI_l hx.1 hx.2, show (0 : Int64) = lI 0 from rfl, show (1 : Int64) = lI 1 from rfl, show (-200 : Int64) = lI (-200) from rfl, show (200 : Int64) = lI 200 from rfl]
    by_cases q2 : 0 ≤ w ∧ w ≤ 1
    · rw [isIn_y N _ hw (i32_c (by omega) (by omega)) (i32_c (by omega) (by omega)) q2]
      simp only []
      rw [if_neg (show ¬ (1 : Int32) = 0 by decide)]
      by_cases q3 : -200 ≤ x ∧ x ≤ 200
      · have y : ((0 ≤ c ∧ c ≤ 3) ∧ (0 ≤ w ∧ w ≤ 1)) ∧ (-200 ≤ x ∧ x ≤ 200) := ⟨⟨q, q2⟩, q3⟩
        rw [if_pos y, if_pos y.1, if_pos q3, isIn_y N _ hx (i32_c (by omega) (by omega)) (i32_c (by omega) (by omega)) q3]
        simp only []
        rw [if_neg (show ¬ (1 : Int32) = 0 by decide), cv_at (M.wi _)]
        obtain ⟨G', e, f, g, t, iv, ws⟩ := tell_S N hN M _ (s.fr M (fr.code 0)) (c := c.toNat) (by omega)
        rw [show ((c.toNat : Nat) : Int) = c by omega] at e
        rw [e]
        simp only [cl]
        have iv' := t.symm.inv iv
        have bd := isBound_is N (by omega) ((M.wi G').ro m4) (by rw [h_i_wi]; exact iv'.sb) (s := x) (by omega)
        rw [h_i_wi, t 0 (by omega), zS_congr t] at bd
        have fin : ∀ z : Int, z = zAg (zC C c.toNat) x w → aEnd A m h G (lI (zAg (zC C c.toNat) x w)) 0 (some (lI z, w_i h G')) := fun z hz => ⟨G', by rw [hz], (fr.code 0).trans f, by rw [g, c0]⟩
        rw [gR_at (M.wi _) m4]
        simp only [nn]
        rw [bd]
        simp only []
        unfold f_M_against_95
        by_cases q4 : zC C c.toNat 0 ≤ x ∧ x ≤ zS (zC C c.toNat) 10001
        · rw [if_pos q4, if_neg (show ¬ (1 : Int32) = 0 by decide)]
          by_cases w0 : w = 0
          · rw [if_pos (show iI w = (0 : Int32) by rw [w0]; rfl), gR_at (M.wi _) m4]
            simp only []
            rw [againstOf_is N (by omega) ((M.wi _).ro m4) (by rw [h_i_wi]; exact iv'.sb) (by omega), h_i_wi, zAgainst_congr t]
            exact fin _ (by unfold zAg; rw [if_pos q4, if_pos w0])
          · rw [if_neg (show ¬ iI w = (0 : Int32) from fun z => w0 ((iI_eq (b := 0) (by omega) (by omega)).mp z)), gR_at (M.wi _) m4]
            simp only []
            have r := zStand_r (zC C c.toNat) x
            rw [standsAt_is N (by omega) ((M.wi _).ro m4) (by rw [h_i_wi]; exact iv'.sb) (by omega), h_i_wi, zStand_congr t]
            simp only []
            rw [iI_l (by omega) (by omega)]
            exact fin _ (by unfold zAg; rw [if_pos q4, if_neg w0])
        · rw [if_neg q4, if_pos rfl]
          exact fin (-10000000) (by unfold zAg; rw [if_neg q4])
      · have y : (0 ≤ c ∧ c ≤ 3) ∧ (0 ≤ w ∧ w ≤ 1) := ⟨q, q2⟩
        rw [if_neg (show ¬ (((0 ≤ c ∧ c ≤ 3) ∧ (0 ≤ w ∧ w ≤ 1)) ∧ (-200 ≤ x ∧ x ≤ 200)) from fun z => q3 z.2), if_pos y, if_neg q3, isIn_n N _ hx (i32_c (by omega) (by omega)) (i32_c (by omega) (by omega)) q3]
        simp only []
        rw [if_pos trivial]
        exact fail_S N M (fr.code 0) 2 (fun v => v.toInt64)
    · rw [if_neg (show ¬ (((0 ≤ c ∧ c ≤ 3) ∧ (0 ≤ w ∧ w ≤ 1)) ∧ (-200 ≤ x ∧ x ≤ 200)) from fun z => q2 z.1.2), if_neg (show ¬ ((0 ≤ c ∧ c ≤ 3) ∧ (0 ≤ w ∧ w ≤ 1)) from fun z => q2 z.2), isIn_n N _ hw (i32_c (by omega) (by omega)) (i32_c (by omega) (by omega)) q2]
      simp only []
      rw [if_pos trivial]
      exact fail_S N M (fr.code 0) 1 (fun v => v.toInt64)
  · rw [if_neg (show ¬ (((0 ≤ c ∧ c ≤ 3) ∧ (0 ≤ w ∧ w ≤ 1)) ∧ (-200 ≤ x ∧ x ≤ 200)) from fun z => q z.1.1), if_neg (show ¬ ((0 ≤ c ∧ c ≤ 3) ∧ (0 ≤ w ∧ w ≤ 1)) from fun z => q z.1), isCost_n N _ _ hc q]
    simp only [cl]
    rw [if_pos trivial]
    exact fail_S N M (fr.code 0) 1 (fun v => v.toInt64)
