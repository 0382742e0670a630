/-! THE REFERENCE: puts, does -/
section
variable {ρ : Nat → Nat} {A : Nat → Nat} {m : Nat} {h g u : hS} {F F' : FT}
theorem inI (N : Nat) (h : hS) {a lo hi : Int} (ha : i32 a) (hl : -10000 ≤ lo ∧ lo ≤ 10000) (hh : -10000 ≤ hi ∧ hi ≤ 10000) : f_M_isIn N h (iI a).toInt64 (lI lo) (lI hi) = some (if lo ≤ a ∧ a ≤ hi then 1 else 0, h) := by
  unfold i32 at ha
  rw [iI_l ha.1 ha.2, isIn_is N h (by omega) (by omega) (by omega)]
theorem told_st (N : Nat) (h : hS) {c kd a b : Int} (hc : i32 c) (hk : i32 kd) (ha : i32 a) (hb : i32 b) : ∃ v : Int32, f_M_isStepTold N h (iI c) (iI kd) (iI a) (iI b) = some (v, h) ∧ (((0 ≤ kd ∧ kd ≤ 8) ∧ okNum kd a b ∧ ¬ (kd = 8 ∧ a = c)) → v = 1) ∧ (¬ ((0 ≤ kd ∧ kd ≤ 8) ∧ okNum kd a b ∧ ¬ (kd = 8 ∧ a = c)) → v = 0) := by
  unfold i32 at hk
  have ne : ∀ k : Int, -100 ≤ k ∧ k ≤ 100 → kd ≠ k → ¬ iI kd = iI k := fun k hk' hne z => hne ((iI_eq hk (by omega)).mp z)
  have r52 : ∃ v : Int32, f_M_isStepTold_52 N h (iI a) (iI b) = some (v, h) ∧ (((-500 ≤ a ∧ a ≤ 500) ∧ (0 ≤ b ∧ b ≤ 99)) → v = 1) ∧ (¬ ((-500 ≤ a ∧ a ≤ 500) ∧ (0 ≤ b ∧ b ≤ 99)) → v = 0) := by
    unfold f_M_isStepTold_52 f_M_isStepTold_82 f_M_isStepTold_83
    rw [show (-500 : Int64) = lI (-500) from rfl, show (500 : Int64) = lI 500 from rfl, inI N h ha (by omega) (by omega), cl_s]
    by_cases q : -500 ≤ a ∧ a ≤ 500
    · rw [if_pos q, if_neg (by decide), show (0 : Int64) = lI 0 from rfl, show (99 : Int64) = lI 99 from rfl, inI N h hb (by omega) (by omega), cl_s]
      by_cases q2 : 0 ≤ b ∧ b ≤ 99
      · rw [if_pos q2, if_neg (by decide)]; exact ⟨1, bz_1, fun _ => rfl, fun z => absurd ⟨q, q2⟩ z⟩
      · rw [if_neg q2, if_pos rfl]; exact ⟨0, bz_0, fun z => absurd z.2 q2, fun _ => rfl⟩
    · rw [if_neg q, if_pos rfl]; exact ⟨0, bz_0, fun z => absurd z.1 q, fun _ => rfl⟩
  have lift : ∀ (P : Prop) (r : Option (Int32 × hS)), (((0 ≤ kd ∧ kd ≤ 8) ∧ okNum kd a b ∧ ¬ (kd = 8 ∧ a = c)) ↔ P) → (∃ v : Int32, r = some (v, h) ∧ (P → v = 1) ∧ (¬ P → v = 0)) → ∃ v : Int32, r = some (v, h) ∧ (((0 ≤ kd ∧ kd ≤ 8) ∧ okNum kd a b ∧ ¬ (kd = 8 ∧ a = c)) → v = 1) ∧ (¬ ((0 ≤ kd ∧ kd ≤ 8) ∧ okNum kd a b ∧ ¬ (kd = 8 ∧ a = c)) → v = 0) := fun P r hP ⟨v, v1, v2, v3⟩ => ⟨v, v1, fun z => v2 (hP.mp z), fun z => v3 (fun y => z (hP.mpr y))⟩
  unfold f_M_isStepTold
  by_cases k0 : kd = 0
  · rw [if_pos (show iI kd = (0 : Int32) by rw [k0]; rfl)]
    refine lift _ _ ?_ r52
    subst k0; unfold okNum zNum loF hiF; simp
  rw [if_neg (show ¬ iI kd = (0 : Int32) from ne 0 (by omega) k0)]
  by_cases k1 : kd = 1
  · rw [if_pos (show iI kd = (1 : Int32) by rw [k1]; rfl)]
    refine lift _ _ ?_ r52
    subst k1; unfold okNum zNum loF hiF; simp
  rw [if_neg (show ¬ iI kd = (1 : Int32) from ne 1 (by omega) k1)]
  by_cases k2 : kd = 2
  · rw [if_pos (show iI kd = (2 : Int32) by rw [k2]; rfl)]
    refine lift _ _ ?_ r52
    subst k2; unfold okNum zNum loF hiF; simp
  rw [if_neg (show ¬ iI kd = (2 : Int32) from ne 2 (by omega) k2)]
  by_cases k3 : kd = 3
  · rw [if_pos (show iI kd = (3 : Int32) by rw [k3]; rfl)]
    refine lift (-500 ≤ a ∧ a ≤ 500) _ ?_ ?_
    · subst k3; unfold okNum zNum loF hiF; simp
    · rw [show (-500 : Int64) = lI (-500) from rfl, show (500 : Int64) = lI 500 from rfl, inI N h ha (by omega) (by omega), cl_s]
      by_cases q : -500 ≤ a ∧ a ≤ 500
      · rw [if_pos q]; exact ⟨1, bz_1, fun _ => rfl, fun z => absurd q z⟩
      · rw [if_neg q]; exact ⟨0, bz_0, fun z => absurd z q, fun _ => rfl⟩
  rw [if_neg (show ¬ iI kd = (3 : Int32) from ne 3 (by omega) k3)]
  by_cases k4 : kd = 4
  · rw [if_pos (show iI kd = (4 : Int32) by rw [k4]; rfl)]
    refine lift ((0 ≤ a ∧ a ≤ 99) ∧ (0 ≤ b ∧ b ≤ 99)) _ ?_ ?_
    · subst k4; unfold okNum zNum loF hiF; simp
    · unfold f_M_isStepTold_124 f_M_isStepTold_125
      rw [show (0 : Int64) = lI 0 from rfl, show (99 : Int64) = lI 99 from rfl, inI N h ha (by omega) (by omega), cl_s]
      by_cases q : 0 ≤ a ∧ a ≤ 99
      · rw [if_pos q, if_neg (by decide), inI N h hb (by omega) (by omega), cl_s]
        by_cases q2 : 0 ≤ b ∧ b ≤ 99
        · rw [if_pos q2, if_neg (by decide)]; exact ⟨1, bz_1, fun _ => rfl, fun z => absurd ⟨q, q2⟩ z⟩
        · rw [if_neg q2, if_pos rfl]; exact ⟨0, bz_0, fun z => absurd z.2 q2, fun _ => rfl⟩
      · rw [if_neg q, if_pos rfl]; exact ⟨0, bz_0, fun z => absurd z.1 q, fun _ => rfl⟩
  rw [if_neg (show ¬ iI kd = (4 : Int32) from ne 4 (by omega) k4)]
  unfold f_M_isStepTold_159 f_M_isStepTold_170 f_M_isStepTold_175
  by_cases k5 : kd = 5
  · have e5 : iI kd = (5 : Int32) := by rw [k5]; rfl
    rw [if_pos e5, if_pos e5]
    refine lift True _ ?_ ⟨1, bz_1, fun _ => rfl, fun z => absurd trivial z⟩
    subst k5; unfold okNum zNum loF hiF; simp
  have n5 : ¬ iI kd = (5 : Int32) := ne 5 (by omega) k5
  rw [if_neg n5]
  by_cases k6 : kd = 6
  · have e6 : iI kd = (6 : Int32) := by rw [k6]; rfl
    rw [if_pos e6, if_neg n5, if_pos e6]
    refine lift True _ ?_ ⟨1, bz_1, fun _ => rfl, fun z => absurd trivial z⟩
    subst k6; unfold okNum zNum loF hiF; simp
  have n6 : ¬ iI kd = (6 : Int32) := ne 6 (by omega) k6
  rw [if_neg n6]
  by_cases k7 : kd = 7
  · rw [if_pos (show iI kd = (7 : Int32) by rw [k7]; rfl)]
    refine lift (0 ≤ a ∧ a ≤ 999) _ ?_ ?_
    · subst k7; unfold okNum zNum loF hiF; simp
    · rw [show (0 : Int64) = lI 0 from rfl, show (999 : Int64) = lI 999 from rfl, inI N h ha (by omega) (by omega), cl_s]
      by_cases q : 0 ≤ a ∧ a ≤ 999
      · rw [if_pos q]; exact ⟨1, bz_1, fun _ => rfl, fun z => absurd q z⟩
      · rw [if_neg q]; exact ⟨0, bz_0, fun z => absurd z q, fun _ => rfl⟩
  rw [if_neg (show ¬ iI kd = (7 : Int32) from ne 7 (by omega) k7)]
  by_cases k8 : kd = 8
  · rw [if_pos (show iI kd = (8 : Int32) by rw [k8]; rfl)]
    refine lift ((0 ≤ a ∧ a ≤ 3) ∧ a ≠ c) _ ?_ ?_
    · subst k8; unfold okNum zNum loF hiF; simp
    · unfold f_M_isStepTold_157 f_M_isStepTold_158
      rw [show (0 : Int64) = lI 0 from rfl, show (3 : Int64) = lI 3 from rfl, inI N h ha (by omega) (by omega), cl_s]
      by_cases q : 0 ≤ a ∧ a ≤ 3
      · rw [if_pos q, if_neg (by decide)]
        by_cases q2 : a = c
        · rw [if_pos (by rw [q2])]; exact ⟨0, bz_0, fun z => absurd q2 z.2, fun _ => rfl⟩
        · rw [if_neg (fun z => q2 ((iI_eq ha hc).mp z))]; exact ⟨1, bz_1, fun _ => rfl, fun z => absurd ⟨q, q2⟩ z⟩
      · rw [if_neg q, if_pos rfl]; exact ⟨0, bz_0, fun z => absurd z.1 q, fun _ => rfl⟩
  · rw [if_neg (show ¬ iI kd = (8 : Int32) from ne 8 (by omega) k8), if_neg n5, if_neg n6]
    exact ⟨0, bz_0, fun z => by omega, fun _ => rfl⟩
/-- nothing is laid yet -/
def flT (T : Nat → Int32) (j p : Nat) : Int32 := if p < j then -1 else T p
theorem flT_u (T : Nat → Int32) (j : Nat) : upd (flT T j) j (-1) = flT T (j + 1) := by
  funext p
  unfold upd flT
  by_cases e : p = j
  · rw [if_pos e, if_pos (by omega)]
  · rw [if_neg e]
    by_cases q : p < j
    · rw [if_pos q, if_pos (by omega)]
    · rw [if_neg q, if_neg (by omega)]
theorem flT_0 (T : Nat → Int32) : flT T 0 = T := by
  funext p
  unfold flT
  rw [if_neg (by omega)]
theorem forgL (N : Nat) (M : MO A m h) : ∀ (q j fuel : Nat), j + q = 4 → f_M_forgetLaid_2 N (q + (fuel + 1)) (s_w h (A 16) (flT (h_i h (A 16)) j)) m (iI j) = some ((), s_w h (A 16) (flT (h_i h (A 16)) 4)) := by
  have m16 : (16, 50, 4) ∈ mrows := by decide
  intro q
  induction q with
  | zero =>
    intro j fuel hj
    have e : j = 4 := by omega
    subst e
    rw [Nat.zero_add]
    unfold f_M_forgetLaid_2
    rw [if_pos (show (4 : Int32) ≤ iI ((4 : Nat) : Int) by decide)]
  | succ q ih =>
    intro j fuel hj
    rw [show q + 1 + (fuel + 1) = (q + (fuel + 1)) + 1 by omega]
    unfold f_M_forgetLaid_2
    rw [if_neg (show ¬ (4 : Int32) ≤ iI (j : Int) from fun z => absurd ((iI_le (a := 4) (by omega) (by omega)).mp z) (by omega)), gR_at (M.sw _ _) m16, uI_iI (z := (j : Int)) ((M.sw _ _).ro (i := 16) (n := 4) m16) (by omega) (by omega) (by omega), Int.toNat_natCast, s_w_i, flT_u, bn_i, show iI (j : Int) + (1 : Int32) = iI ((j + 1 : Nat) : Int) by rw [show (1 : Int32) = iI 1 from rfl, iI_add]; rfl]
    exact ih (j + 1) fuel (by omega)
theorem forgetL_is (N : Nat) (hN : 100 ≤ N) (X : RM ρ A m h F) : ∃ g, f_M_forgetLaid N h m = some ((), g) ∧ frM A m h g ∧ RM ρ A m g F ∧ LD A g F ∧ (∀ q, q ≠ A 16 → h_i g q = h_i h q) ∧ ∀ k, k < 4 → h_i g (A 16) k = iI (-1) := by
  have M := X.1.1
  have m16 : (16, 50, 4) ∈ mrows := by decide
  have lp := forgL N M 4 0 (N - 5) (by omega)
  rw [flT_0, s_w_self, show 4 + (N - 5 + 1) = N by omega] at lp
  have f : frM A m h (s_w h (A 16) (flT (h_i h (A 16)) 4)) := by
    refine ⟨⟨rfl, rfl, rfl, rfl, rfl⟩, fun q h1 _ => by rw [h_i_sw, if_neg (h1 16 (by decide))], fun k _ => ?_, fun _ _ => rfl⟩
    rw [h_i_sw, if_neg (Ne.symm (M.ne m16 (by decide)))]
  have l : ∀ k, k < 4 → h_i (s_w h (A 16) (flT (h_i h (A 16)) 4)) (A 16) k = iI (-1) := fun k hk => by rw [h_i_sw, if_pos rfl]; unfold flT; rw [if_pos hk]; decide
  exact ⟨_, lp, f, (X.fr f).1, fun k hk => ⟨-1, l k hk, Or.inl rfl⟩, fun q hq => by rw [h_i_sw, if_neg hq], l⟩
/-- steps behind the place make room -/
def inT (T : Nat → Int32) (n k p : Nat) : Int32 := if k + 4 < p ∧ p ≤ 4 * n + 4 then T (p - 4) else T p
theorem inT_u (T : Nat → Int32) {n k : Nat} (h0 : 0 < k) (hk : k ≤ 4 * n) : upd (inT T n k) (4 + k) (T k) = inT T n (k - 1) := by
  funext p
  unfold upd inT
  by_cases e : p = 4 + k
  · rw [if_pos e, if_pos ⟨by omega, by omega⟩, show p - 4 = k by omega]
  · rw [if_neg e]
    by_cases q : k + 4 < p ∧ p ≤ 4 * n + 4
    · rw [if_pos q, if_pos ⟨by omega, by omega⟩]
    · rw [if_neg q, if_neg (by omega)]
theorem inT_0 (T : Nat → Int32) (n : Nat) : inT T n (4 * n) = T := by
  funext p
  unfold inT
  rw [if_neg (by omega)]
theorem puts76 (N : Nat) (M : MO A m h) {c : Nat} (hc : c < 4) (x2 x3 x4 x5 x6 : Int32) : ∀ (q j fuel : Nat), j + q = 161 → f_M_puts_76 N (q + (fuel + 1)) (s_w h (A 18) (rdT (h_i h (A 18)) (h_i h (A 2)) c j)) m (iI c) x2 x3 x4 x5 x6 (iI j) = f_M_puts_120 N N (s_w h (A 18) (rdT (h_i h (A 18)) (h_i h (A 2)) c 161)) m (iI c) x2 x3 x4 x5 x6 ((4 : Int32) * rdT (h_i h (A 18)) (h_i h (A 2)) c 161 0) := by
  have m18 : (18, 50, 644) ∈ mrows := by decide
  have m2 : (2, 50, 644) ∈ mrows := by decide
  have n218 : A 2 ≠ A 18 := M.nn m2 m18 (by decide)
  intro q
  induction q with
  | zero =>
    intro j fuel hj
    have e : j = 161 := by omega
    subst e
    rw [Nat.zero_add]
    unfold f_M_puts_76
    rw [if_pos (show (161 : Int32) ≤ iI ((161 : Nat) : Int) by decide), gR_at (M.sw _ _) m18, show (0 : Int32) = iI 0 from rfl, aI_iI (z := 0) ((M.sw _ _).ro (i := 18) (n := 644) m18) (by omega) (by omega) (by omega), show (0 : Int).toNat = 0 from rfl, h_i_sw, if_pos rfl, bn_i]
  | succ q ih =>
    intro j fuel hj
    rw [show q + 1 + (fuel + 1) = (q + (fuel + 1)) + 1 by omega]
    unfold f_M_puts_76
    rw [if_neg (show ¬ (161 : Int32) ≤ iI (j : Int) from fun z => absurd ((iI_le (a := 161) (by omega) (by omega)).mp z) (by omega)), gR_at (M.sw _ _) m18, gR_at (M.sw _ _) m2, show ((161 : Int32) * iI (c : Int) + iI (j : Int)) = iI (161 * (c : Int) + j) by rw [show (161 : Int32) = iI 161 from rfl, iI_mul, iI_add], aI_iI (z := 161 * (c : Int) + j) ((M.sw _ _).ro (i := 2) (n := 644) m2) (by omega) (by omega) (by omega), show (161 * (c : Int) + (j : Int)).toNat = 161 * c + j by omega, h_i_sw, if_neg n218, uI_iI (z := (j : Int)) ((M.sw _ _).ro (i := 18) (n := 644) m18) (by omega) (by omega) (by omega), Int.toNat_natCast, s_w_i, rdT_u, bn_i, show iI (j : Int) + (1 : Int32) = iI ((j + 1 : Nat) : Int) by rw [show (1 : Int32) = iI 1 from rfl, iI_add]; rfl]
    exact ih (j + 1) fuel (by omega)
end
