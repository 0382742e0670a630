/-! THE REFERENCE: takes, undo -/
def dlT (T : Nat → Int32) (i k p : Nat) : Int32 := if 1 + 4 * i ≤ p ∧ p < k then T (p + 4) else T p
theorem dlT_u (T : Nat → Int32) {i k : Nat} (hk : 1 + 4 * i ≤ k) : upd (dlT T i k) k (T (k + 4)) = dlT T i (k + 1) := by
  funext p
  unfold upd dlT
  by_cases e : p = k
  · rw [if_pos e, if_pos ⟨by omega, by omega⟩, e]
  · rw [if_neg e]
    by_cases q : 1 + 4 * i ≤ p ∧ p < k
    · rw [if_pos q, if_pos ⟨by omega, by omega⟩]
    · rw [if_neg q, if_neg (by omega)]
theorem dlT_0 (T : Nat → Int32) (i : Nat) : dlT T i (1 + 4 * i) = T := by
  funext p
  unfold dlT
  rw [if_neg (by omega)]
def unT (U T : Nat → Int32) (a j p : Nat) : Int32 := if p < j then T (644 * a + p) else U p
def zeT (T : Nat → Int32) (a j p : Nat) : Int32 := if 644 * a ≤ p ∧ p < 644 * a + j then 0 else T p
theorem unT_u (U T : Nat → Int32) (a j : Nat) : upd (unT U T a j) j (T (644 * a + j)) = unT U T a (j + 1) := by
  funext p
  unfold upd unT
  by_cases e : p = j
  · rw [if_pos e, if_pos (by omega), e]
  · rw [if_neg e]
    by_cases q : p < j
    · rw [if_pos q, if_pos (by omega)]
    · rw [if_neg q, if_neg (by omega)]
theorem zeT_u (T : Nat → Int32) (a j : Nat) : upd (zeT T a j) (644 * a + j) 0 = zeT T a (j + 1) := by
  funext p
  unfold upd zeT
  by_cases e : p = 644 * a + j
  · rw [if_pos e, if_pos ⟨by omega, by omega⟩]
  · rw [if_neg e]
    by_cases q : 644 * a ≤ p ∧ p < 644 * a + j
    · rw [if_pos q, if_pos ⟨by omega, by omega⟩]
    · rw [if_neg q, if_neg (by omega)]
theorem unT_0 (U T : Nat → Int32) (a : Nat) : unT U T a 0 = U := by
  funext p
  unfold unT
  rw [if_neg (by omega)]
theorem zeT_0 (T : Nat → Int32) (a : Nat) : zeT T a 0 = T := by
  funext p
  unfold zeT
  rw [if_neg (by omega)]
theorem bk_back (C : Cs) (E : AcT) {na : Nat} (hna : na ≠ 0) : ∀ d, bkC (upC C (E (na - 1)).1 (E (na - 1)).2) E (na - 1) d = bkC C E na (d + 1) := by
  intro d
  induction d with
  | zero => rfl
  | succ d ih =>
    rw [bkC, ih]
    conv => rhs; rw [bkC]
    rw [show na - 1 - 1 - d = na - 1 - (d + 1) by omega]
section
variable {ρ : Nat → Nat} {A : Nat → Nat} {m : Nat} {h g u : hS} {F F' : FT}
theorem takes22 (N : Nat) (M : MO A m h) {c : Nat} (hc : c < 4) (x2 : Int32) : ∀ (q j fuel : Nat), j + q = 161 → f_M_takes_22 N (q + (fuel + 1)) (s_w h (A 18) (rdT (h_i h (A 18)) (h_i h (A 2)) c j)) m (iI c) x2 (iI j) = f_M_takes_59 N N (s_w h (A 18) (rdT (h_i h (A 18)) (h_i h (A 2)) c 161)) m (iI c) ((1 : Int32) + ((4 : Int32) * x2)) := by
  have m18 : (18, 50, 644) ∈ mrows := by decide
  have m2 : (2, 50, 644) ∈ mrows := by decide
  have n218 : A 2 ≠ A 18 := M.nn m2 m18 (by decide)
  intro q
  induction q with
  | zero =>
    intro j fuel hj
    have e : j = 161 := by omega
    subst e
    rw [Nat.zero_add]
    unfold f_M_takes_22
    rw [if_pos (show (161 : Int32) ≤ iI ((161 : Nat) : Int) by decide), bn_i]
  | succ q ih =>
    intro j fuel hj
    rw [show q + 1 + (fuel + 1) = (q + (fuel + 1)) + 1 by omega]
    unfold f_M_takes_22
    rw [if_neg (show ¬ (161 : Int32) ≤ iI (j : Int) from fun z => absurd ((iI_le (a := 161) (by omega) (by omega)).mp z) (by omega)), gR_at (M.sw _ _) m18, gR_at (M.sw _ _) m2, show ((161 : Int32) * iI (c : Int) + iI (j : Int)) = iI (161 * (c : Int) + j) by rw [show (161 : Int32) = iI 161 from rfl, iI_mul, iI_add], aI_iI (z := 161 * (c : Int) + j) ((M.sw _ _).ro (i := 2) (n := 644) m2) (by omega) (by omega) (by omega), show (161 * (c : Int) + (j : Int)).toNat = 161 * c + j by omega, h_i_sw, if_neg n218, uI_iI (z := (j : Int)) ((M.sw _ _).ro (i := 18) (n := 644) m18) (by omega) (by omega) (by omega), Int.toNat_natCast, s_w_i, rdT_u, bn_i, show iI (j : Int) + (1 : Int32) = iI ((j + 1 : Nat) : Int) by rw [show (1 : Int32) = iI 1 from rfl, iI_add]; rfl]
    exact ih (j + 1) fuel (by omega)
theorem takes59 (N : Nat) (M : MO A m h) (T : Nat → Int32) (x1 : Int32) {i : Nat} (hi : i < 40) : ∀ (q k fuel : Nat), 1 + 4 * i ≤ k → k + q = 157 → f_M_takes_59 N (q + (fuel + 1)) (s_w h (A 18) (dlT T i k)) m x1 (iI k) = (cv (s_w h (A 18) (upd (dlT T i 157) 0 (T 0 - 1))) (some m) 0 (fun a => f_M_becomes N (s_w h (A 18) (upd (dlT T i 157) 0 (T 0 - 1))) a x1) fun v4 h5 => some (v4, h5)) := by
  have m18 : (18, 50, 644) ∈ mrows := by decide
  intro q
  induction q with
  | zero =>
    intro k fuel hk hj
    have e : k = 157 := by omega
    subst e
    rw [Nat.zero_add]
    unfold f_M_takes_59
    rw [if_pos (show (161 : Int32) ≤ iI ((157 : Nat) : Int) + (4 : Int32) by decide), gR_at (M.sw _ _) m18, show (0 : Int32) = iI 0 from rfl, aI_iI (z := 0) ((M.sw _ _).ro (i := 18) (n := 644) m18) (by omega) (by omega) (by omega), uI_iI (z := 0) ((M.sw _ _).ro (i := 18) (n := 644) m18) (by omega) (by omega) (by omega), show (0 : Int).toNat = 0 from rfl, h_i_sw, if_pos rfl, s_w_i, show dlT T i 157 0 = T 0 by unfold dlT; rw [if_neg (by omega)]]
  | succ q ih =>
    intro k fuel hk hj
    rw [show q + 1 + (fuel + 1) = (q + (fuel + 1)) + 1 by omega]
    unfold f_M_takes_59
    have e4 : iI (k : Int) + (4 : Int32) = iI ((k + 4 : Nat) : Int) := by rw [show (4 : Int32) = iI 4 from rfl, iI_add]; rfl
    rw [e4, if_neg (show ¬ (161 : Int32) ≤ iI ((k + 4 : Nat) : Int) from fun z => absurd ((iI_le (a := 161) (by omega) (by omega)).mp z) (by omega)), gR_at (M.sw _ _) m18, gR_at (M.sw _ _) m18, aI_iI (z := ((k + 4 : Nat) : Int)) ((M.sw _ _).ro (i := 18) (n := 644) m18) (by omega) (by omega) (by omega), Int.toNat_natCast, h_i_sw, if_pos rfl, show dlT T i k (k + 4) = T (k + 4) by unfold dlT; rw [if_neg (by omega)], uI_iI (z := (k : Int)) ((M.sw _ _).ro (i := 18) (n := 644) m18) (by omega) (by omega) (by omega), Int.toNat_natCast, s_w_i, dlT_u T hk, bn_i, show iI (k : Int) + (1 : Int32) = iI ((k + 1 : Nat) : Int) by rw [show (1 : Int32) = iI 1 from rfl, iI_add]; rfl]
    exact ih (k + 1) fuel (by omega) (by omega)
theorem takes_M (N : Nat) (hN : 30000 ≤ N) (X : RM ρ A m h F) {c i : Int} (hc : i32 c) (hi : i32 i) : (takeOk F.1.1 c i → RX ρ A m h (iI (((F.1.1 c.toNat).1 - 1 : Nat) : Int)) (actS F.1 c.toNat (delX (F.1.1 c.toNat) i.toNat), F.2) 0 (f_M_takes N h m (iI c) (iI i))) ∧ (¬ takeOk F.1.1 c i → RX ρ A m h (-1 : Int32) (rfS F.1 1, F.2) 0 (f_M_takes N h m (iI c) (iI i))) := by
  obtain ⟨X1, c1⟩ := X.code 0
  have M1 := X1.1.1
  have v := X.2.2.2.2.1.2
  by_cases h1 : isSt F.1.1 c i
  · obtain ⟨qc, qi⟩ := id h1
    obtain ⟨n1, n2⟩ := n4 qc
    have vc := v.1 c.toNat n1
    have h40 := vc.1
    obtain ⟨ii, hii⟩ : ∃ ii, ii = i.toNat := ⟨_, rfl⟩
    have ei : i = (ii : Int) := by omega
    have il : ii < (F.1.1 c.toNat).1 := by omega
    obtain ⟨R2, X2, f2, nm2⟩ := read_now X1 n1
    obtain ⟨T, hT⟩ : ∃ T, T = rdT (h_i (s_i h m 1 0) (A 18)) (h_i (s_i h m 1 0) (A 2)) c.toNat 161 := ⟨_, rfl⟩
    rw [← hT] at R2 X2 f2 nm2
    have l1 := takes22 N M1 n1 (iI i) 161 0 (N - 162) (by omega)
    rw [rdT_0, s_w_self, show 161 + (N - 162 + 1) = N by omega, n2, ← hT] at l1
    have l2 := takes59 N M1 T (iI c) (i := ii) (by omega) (157 - (1 + 4 * ii)) (1 + 4 * ii) (N - (157 - (1 + 4 * ii)) - 1) (Nat.le_refl _) (by omega)
    rw [dlT_0, show 157 - (1 + 4 * ii) + (N - (157 - (1 + 4 * ii)) - 1 + 1) = N by omega] at l2
    have ek : (1 : Int32) + ((4 : Int32) * iI i) = iI ((1 + 4 * ii : Nat) : Int) := by rw [show (4 : Int32) = iI 4 from rfl, iI_mul, show (1 : Int32) = iI 1 from rfl, iI_add]; congr 1; omega
    have f3 := frM.w (h := s_i h m 1 0) (X.mne (i := 18) (k := 50) (n := 644) (by decide) (by decide)) (upd (dlT T ii 157) 0 (T 0 - 1))
    obtain ⟨X3, _, _⟩ := X1.fr f3
    have h18 : h_i (s_w (s_i h m 1 0) (A 18) T) (A 18) = T := by rw [h_i_sw, if_pos rfl]
    have g18 : h_i (s_w (s_i h m 1 0) (A 18) (upd (dlT T ii 157) 0 (T 0 - 1))) (A 18) = upd (dlT T ii 157) 0 (T 0 - 1) := by rw [h_i_sw, if_pos rfl]
    obtain ⟨r1, r2, r3⟩ := R2
    rw [h18] at r1 r3
    have T0 : T 0 - 1 = iI (((F.1.1 c.toNat).1 - 1 : Nat) : Int) := by rw [r1, show (1 : Int32) = iI 1 from rfl, iI_sub]; congr 1; omega
    -- an entry of the new row is one of the old
    have en : ∀ j k, k < 4 → j < (F.1.1 c.toNat).1 - 1 → upd (dlT T ii 157) 0 (T 0 - 1) (0 + 1 + 4 * j + k) = T (0 + 1 + 4 * (if j < ii then j else j + 1) + k) := fun j k hk hj => by
      rw [upd_o (by omega)]
      unfold dlT
      by_cases e : j < ii
      · rw [if_neg (by omega), if_pos e]
      · rw [if_pos ⟨by omega, by omega⟩, if_neg e]; congr 1; omega
    have ob : ∀ (t : Int) Y, onB A (s_w (s_i h m 1 0) (A 18) T) (h_i (s_w (s_i h m 1 0) (A 18) T)) t Y → onB A (s_w (s_i h m 1 0) (A 18) (upd (dlT T ii 157) 0 (T 0 - 1))) (h_i (s_w (s_i h m 1 0) (A 18) (upd (dlT T ii 157) 0 (T 0 - 1)))) t Y := by
      have cc : chM A m (s_w (s_i h m 1 0) (A 18) T) (s_w (s_w (s_i h m 1 0) (A 18) T) (A 18) (upd (dlT T ii 157) 0 (T 0 - 1))) := chM.rf.w (m_na 18 (k := 50) (n := 644) (by decide)) _
      have := (X2.ch cc).2.2.2.1
      rw [s_w_w] at this
      exact this
    have R3 : R1 A (s_w (s_i h m 1 0) (A 18) (upd (dlT T ii 157) 0 (T 0 - 1))) (A 18) 0 (delX (F.1.1 c.toNat) ii) := by
      refine ⟨by rw [g18, upd_a, T0]; rfl, by show (F.1.1 c.toNat).1 - 1 ≤ 40; omega, fun j hj => ?_⟩
      have hj' : j < (F.1.1 c.toNat).1 - 1 := hj
      rw [g18]
      obtain ⟨b1, b2, b3, t, b4, b5⟩ := r3 (if j < ii then j else j + 1) (by split <;> omega)
      have e0 := en j 0 (by omega) hj'
      have e1 := en j 1 (by omega) hj'
      have e2 := en j 2 (by omega) hj'
      have e3 := en j 3 (by omega) hj'
      simp only [Nat.add_zero] at e0
      rw [e0, e1, e2, e3]
      have dp : (delX (F.1.1 c.toNat) ii).2.1 j = (F.1.1 c.toNat).2.1 (if j < ii then j else j + 1) := by
        show del (F.1.1 c.toNat).2.1 ii j = _
        unfold del
        split <;> rfl
      have dy : (delX (F.1.1 c.toNat) ii).2.2 j = (F.1.1 c.toNat).2.2 (if j < ii then j else j + 1) := by
        show del (F.1.1 c.toNat).2.2 ii j = _
        unfold del
        split <;> rfl
      rw [dp, dy]
      exact ⟨b1, b2, b3, t, b4, fun q => ob t _ (b5 q)⟩
    have nm3 : ∀ t, t < 1000 → nm1 (s_w (s_i h m 1 0) (A 18) (upd (dlT T ii 157) 0 (T 0 - 1))) (A 18) 0 t → nmd (s_w (s_i h m 1 0) (A 18) (upd (dlT T ii 157) 0 (T 0 - 1))) (A 2) 0 t ∨ t ∈ ([] : List Nat) := fun t _ q => by
      left
      refine (nmd.cg (fun j _ => by rw [h_i_sw, if_neg (X.nn (by decide : (2, 50, 644) ∈ mrows) (by decide : (18, 50, 644) ∈ mrows) (by decide))])).mpr (nm2 t ?_)
      obtain ⟨j, j1, j2, j3, j4⟩ := q
      rw [g18] at j2 j3 j4
      rw [upd_a, T0, iI_toInt (by omega) (by omega)] at j2
      have hj' : j < (F.1.1 c.toNat).1 - 1 := by omega
      have e0 := en j 0 (by omega) hj'
      have e3 := en j 3 (by omega) hj'
      simp only [Nat.add_zero] at e0
      rw [e0] at j3
      rw [e3] at j4
      refine ⟨(if j < ii then j else j + 1), by split <;> omega, ?_, by rw [h18]; exact j3, by rw [h18]; exact j4⟩
      rw [h18, r1, iI_toInt (by omega) (by omega)]
      split <;> omega
    obtain ⟨by_, bn_⟩ := becomes_M N hN X3 n1 R3 (fun j hj => by
      have hj' : j < (F.1.1 c.toNat).1 - 1 := hj
      show okArg (del (F.1.1 c.toNat).2.1 ii j).1 (del (F.1.1 c.toNat).2.1 ii j).2.1 (del (F.1.1 c.toNat).2.1 ii j).2.2
      unfold del
      split
      · exact vc.arg j (by omega)
      · exact vc.arg (j + 1) (by omega)) (fun o => vC_del vc il o) (D0 := []) (by simp) nm3
    have k0 : h_i (s_w (s_i h m 1 0) (A 18) (upd (dlT T ii 157) 0 (T 0 - 1))) m 1 = 0 := by rw [h_i_sw, if_neg (Ne.symm (X.mne (i := 18) (k := 50) (n := 644) (by decide) (by decide)))]; exact code_a h m 0
    rw [k0, n2] at by_ bn_
    have e0 : f_M_takes N h m (iI c) (iI i) = (cv (s_w (s_i h m 1 0) (A 18) (upd (dlT T ii 157) 0 (T 0 - 1))) (some m) 0 (fun a => f_M_becomes N (s_w (s_i h m 1 0) (A 18) (upd (dlT T ii 157) 0 (T 0 - 1))) a (iI c)) fun v4 h5 => some (v4, h5)) := by
      unfold f_M_takes
      rw [pI_at X.1.1, cv_at M1, isStepM_y N X1 h1, cl_s, if_neg (by decide)]
      refine (show f_M_takes_22 N N (s_i h m 1 0) m (iI c) (iI i) (0 : Int32) = _ from l1).trans ?_
      rw [ek, l2]
    rw [← hii]
    constructor
    · intro q
      obtain ⟨ρ', u, u1, u2⟩ := RX.pre X (c1.trans f3.c) (by_ (by rw [hii]; exact q.2.2))
      refine ⟨ρ', u, ?_, u2⟩
      rw [e0, cv_at X3.1.1, u1, cl_s]
      rfl
    · intro q
      obtain ⟨ρ', u, u1, u2⟩ := RX.pre X (c1.trans f3.c) (bn_ (fun z => q ⟨qc, by omega, by rw [← hii]; exact z⟩))
      refine ⟨ρ', u, ?_, u2⟩
      rw [e0, cv_at X3.1.1, u1, cl_s]
  · refine ⟨fun q => absurd (show isSt F.1.1 c i from ⟨q.1, by have := q.2.1; omega⟩) h1, fun _ => ?_⟩
    obtain ⟨g, b1, b2, b3, b4⟩ := refM_is N X1 (k := 1) (by omega)
    refine X.x (c1.trans b2) b3 ?_ (by rw [b4]; exact code_a h m 0)
    unfold f_M_takes
    rw [pI_at X.1.1, cv_at M1, isStepM_n N X1 hc hi h1, cl_s, if_pos rfl, cv_at M1, show (1 : Int32) = iI ((1 : Nat) : Int) from rfl, b1, cl_s]
    rfl
end
