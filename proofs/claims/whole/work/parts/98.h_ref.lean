/-! THE REFERENCE'S ASKERS, beside the class's: off -/
theorem iI_divs {sg a : Int} (hs : sg = -1 ∨ sg = 1) (ha : 0 ≤ a ∧ a ≤ 2000000000) : iI (sg * a) / (2 : Int32) = iI (sg * (a / 2)) := by
  rcases hs with e | e <;> subst e
  · apply Int32.toInt_inj.mp
    rw [Int32.toInt_div, iI_toInt (by omega) (by omega), show (2 : Int32).toInt = 2 from rfl, iI_toInt (by omega) (by omega), show (-1 : Int) * a = -a by omega, Int.neg_tdiv, Int.tdiv_eq_ediv_of_nonneg (by omega), Int.bmod_eq_of_le (by omega) (by omega)]
    omega
  · rw [show (1 : Int) * a = a by omega, iI_div2 ha]
    congr 1; omega
section
variable {ρ : Nat → Nat} {A : Nat → Nat} {m : Nat} {h g u : hS} {F F' : FT}
theorem off128 (N : Nat) (hN : 30000 ≤ N) (M : MO A m h) {Z : Nat → Int} (t : tEq (zi (h_i h (A 4))) Z) (hZ : zInv Z) {s0 sg bd : Int} (hs : -5000 ≤ s0 ∧ s0 ≤ 5000) (hsg : sg = -1 ∨ sg = 1) (hb : -1000000000000000 ≤ bd ∧ bd ≤ 1000000000000000) : ∀ (k : Nat) (lo hi : Int) (fuel : Nat), (0 ≤ lo ∧ lo < hi ∧ hi ≤ 1000001) → hi - lo ≤ 2 ^ k → zVal Z (s0 + sg * lo) ≤ bd → bd < zVal Z (s0 + sg * hi) → ∃ D, (lo ≤ D ∧ D < hi) ∧ zVal Z (s0 + sg * D) ≤ bd ∧ bd < zVal Z (s0 + sg * (D + 1)) ∧ f_M_off_128 N (k + (fuel + 1)) h m (lI bd) (iI (s0 + sg * lo)) (iI (s0 + sg * hi)) = some (iI (s0 + sg * D), h) := by
  have m4 : (4, 50, 10003) ∈ mrows := by decide
  have df : ∀ lo hi : Int, iI (s0 + sg * hi) - iI (s0 + sg * lo) = iI (sg * (hi - lo)) := fun lo hi => by
    rw [iI_sub]; congr 1; rcases hsg with e | e <;> subst e <;> omega
  have ja : ∀ lo hi : Int, 0 ≤ lo → lo < hi → hi ≤ 1000001 → jab (iI (sg * (hi - lo))) = iI (hi - lo) := fun lo hi h1 h2 h3 => by
    rcases hsg with e | e <;> subst e
    · rw [jab_is (by omega)]; congr 1; split <;> omega
    · rw [jab_is (by omega)]; congr 1; split <;> omega
  intro k
  have stop : ∀ (lo hi : Int) (fuel : Nat), (0 ≤ lo ∧ lo < hi ∧ hi ≤ 1000001) → hi - lo ≤ 1 → zVal Z (s0 + sg * lo) ≤ bd → bd < zVal Z (s0 + sg * hi) → ∃ D, (lo ≤ D ∧ D < hi) ∧ zVal Z (s0 + sg * D) ≤ bd ∧ bd < zVal Z (s0 + sg * (D + 1)) ∧ f_M_off_128 N (fuel + 1) h m (lI bd) (iI (s0 + sg * lo)) (iI (s0 + sg * hi)) = some (iI (s0 + sg * D), h) := fun lo hi fuel h1 h2 h3 h4 => by
    have e : hi = lo + 1 := by omega
    refine ⟨lo, by omega, h3, by rw [← e]; exact h4, ?_⟩
    unfold f_M_off_128
    rw [df, ja lo hi h1.1 h1.2.1 h1.2.2, if_pos (show iI (hi - lo) ≤ (1 : Int32) from (iI_le (b := 1) (by omega) (by omega)).mpr h2)]
  induction k with
  | zero =>
    intro lo hi fuel h1 h2 h3 h4
    rw [Nat.zero_add]
    exact stop lo hi fuel h1 (by simpa using h2) h3 h4
  | succ k ih =>
    intro lo hi fuel h1 h2 h3 h4
    rw [show k + 1 + (fuel + 1) = (k + (fuel + 1)) + 1 by omega]
    by_cases q : hi - lo ≤ 1
    · exact stop lo hi _ h1 q h3 h4
    · obtain ⟨mi, hmi⟩ : ∃ mi, mi = lo + (hi - lo) / 2 := ⟨_, rfl⟩
      have p2 : (2 : Int) ^ (k + 1) = 2 * 2 ^ k := by rw [Int.pow_succ]; omega
      rw [p2] at h2
      have em : iI (s0 + sg * lo) + iI (sg * (hi - lo)) / (2 : Int32) = iI (s0 + sg * mi) := by
        rw [iI_divs hsg (by omega), iI_add]; congr 1
        rw [hmi]
        rcases hsg with e | e <;> subst e <;> omega
      have bm : -1006000 ≤ s0 + sg * mi ∧ s0 + sg * mi ≤ 1006000 := by rcases hsg with e | e <;> subst e <;> omega
      have va := val_all hZ (x := s0 + sg * mi) (by omega)
      have st : f_M_off_128 N ((k + (fuel + 1)) + 1) h m (lI bd) (iI (s0 + sg * lo)) (iI (s0 + sg * hi)) = if bd < zVal Z (s0 + sg * mi) then f_M_off_128 N (k + (fuel + 1)) h m (lI bd) (iI (s0 + sg * lo)) (iI (s0 + sg * mi)) else f_M_off_128 N (k + (fuel + 1)) h m (lI bd) (iI (s0 + sg * mi)) (iI (s0 + sg * hi)) := by
        conv => lhs; unfold f_M_off_128
        unfold f_M_off_178
        rw [df, ja lo hi h1.1 h1.2.1 h1.2.2, if_neg (show ¬ iI (hi - lo) ≤ (1 : Int32) from fun z => q ((iI_le (b := 1) (by omega) (by omega)).mp z)), dv_ok (by decide), bn_i, em, gR_at M m4, nn_s, valueAt_is N (by omega) (M.ro (i := 4) (n := 10003) m4) (by omega) (by omega), zVal_congr t, cl_s]
        have lg := lg_gt0 (a := zVal Z (s0 + sg * mi)) (b := bd) (by omega) (by omega)
        by_cases z : bd < zVal Z (s0 + sg * mi)
        · rw [if_pos (lg.mpr z), if_pos z]
        · rw [if_neg (fun y => z (lg.mp y)), if_neg z]
      rw [st]
      by_cases z : bd < zVal Z (s0 + sg * mi)
      · rw [if_pos z]
        obtain ⟨D, d1, d2⟩ := ih lo mi fuel (by omega) (by omega) h3 z
        exact ⟨D, by omega, d2⟩
      · rw [if_neg z]
        obtain ⟨D, d1, d2⟩ := ih mi hi fuel (by omega) (by omega) (by omega) h4
        exact ⟨D, by omega, d2⟩
theorem off_M (N : Nat) (hN : 30000 ≤ N) (X : RM ρ A m h F) {c b w : Int} (hc : i32 c) (hbi : i32 b) (hwi : i32 w) : ∃ r : Int, (((0 ≤ c ∧ c ≤ 3) ∧ (0 ≤ w ∧ w ≤ 1)) ∧ (0 ≤ b ∧ b ≤ 1000000) → zOf (zC F.1.1 c.toNat) (if w = 0 then zTurn (zC F.1.1 c.toNat) 0 else zTurn (zC F.1.1 c.toNat) 1) (if w = 0 then -1 else 1) b r) ∧ RX ρ A m h (if ((0 ≤ c ∧ c ≤ 3) ∧ (0 ≤ w ∧ w ≤ 1)) ∧ (0 ≤ b ∧ b ≤ 1000000) then iI r else 0) F (if (0 ≤ c ∧ c ≤ 3) ∧ (0 ≤ w ∧ w ≤ 1) then (if 0 ≤ b ∧ b ≤ 1000000 then 0 else 2) else 1) (f_M_off N h m (iI c) (iI b) (iI w)) := by
  obtain ⟨X1, c1⟩ := X.code 0
  have M1 := X1.1.1
  have m4 : (4, 50, 10003) ∈ mrows := by decide
  have inn : ∀ {a lo hi : Int}, i32 a → (-2000000 ≤ lo ∧ lo ≤ 2000000) → (-2000000 ≤ hi ∧ hi ≤ 2000000) → f_M_isIn N (s_i h m 1 0) (iI a).toInt64 (lI lo) (lI hi) = some (if lo ≤ a ∧ a ≤ hi then 1 else 0, s_i h m 1 0) := fun {a lo hi} ha h1 h2 => by
    unfold i32 at ha
    rw [iI_l ha.1 ha.2]; exact isIn_is N _ (by omega) (by omega) (by omega)
  have e23 : f_M_off_23 N (s_i h m 1 0) m = some (0, s_i (s_i h m 1 0) m 1 1) := by unfold f_M_off_23; rw [cv_at M1, failM N X1, cl_s]
  by_cases qc : 0 ≤ c ∧ c ≤ 3
  · obtain ⟨n1, n2⟩ := n4 qc
    have st1 : f_M_off N h m (iI c) (iI b) (iI w) = (if (if 0 ≤ w ∧ w ≤ 1 then (1 : Int32) else 0) = (0 : Int32) then (f_M_off_23 N (s_i h m 1 0) m) else (if (if 0 ≤ b ∧ b ≤ 1000000 then (1 : Int32) else 0) = (0 : Int32) then (cl (f_M_fail N (s_i h m 1 0) m (2 : Int32)) fun v18 h19 => some (v18, h19)) else (cl (f_M_tell N (s_i h m 1 0) m (iI c)) fun _ h9 => if iI w = (0 : Int32) then (gR h9 (some m) 0 4 fun v14 => nn v14 fun q15 => cl (f_M_flatFrom N h9 q15) fun v16 h17 => f_M_off_73 N h17 m (iI b) (iI w) v16) else (gR h9 (some m) 0 4 fun v10 => nn v10 fun q11 => cl (f_M_flatTo N h9 q11) fun v12 h13 => f_M_off_73 N h13 m (iI b) (iI w) v12)))) := by
      unfold f_M_off
      rw [pI_at X.1.1, cv_at M1, isCost_y N _ _ qc, cl_s, if_neg (by decide), show (0 : Int64) = lI 0 from rfl, show (1 : Int64) = lI 1 from rfl, show (1000000 : Int64) = lI 1000000 from rfl, inn hwi (by omega) (by omega), cl_s, inn hbi (by omega) (by omega), cl_s, cv_at M1, cv_at M1]
    by_cases qw : 0 ≤ w ∧ w ≤ 1
    · rw [if_neg (show ¬ (if 0 ≤ w ∧ w ≤ 1 then (1 : Int32) else 0) = 0 by rw [if_pos qw]; decide)] at st1
      by_cases qb : 0 ≤ b ∧ b ≤ 1000000
      · rw [if_neg (show ¬ (if 0 ≤ b ∧ b ≤ 1000000 then (1 : Int32) else 0) = 0 by rw [if_pos qb]; decide)] at st1
        obtain ⟨M1', s1⟩ := X1.rs
        obtain ⟨G', e1, f1, k1, t1, z1, _⟩ := tell_S N (by omega) M1 (h_i (s_i h m 1 0)) s1 n1
        rw [w_i_self, n2] at e1
        obtain ⟨h2, hh2⟩ : ∃ h2, h2 = w_i (s_i h m 1 0) G' := ⟨_, rfl⟩
        have f2 := f1.m
        obtain ⟨X2, _, _⟩ := X1.fr f2
        rw [← hh2] at X2 f2 e1
        have M2 := X2.1.1
        have k2 : h_i h2 m 1 = 0 := by rw [hh2]; show G' m 1 = 0; rw [k1]; exact code_a h m 0
        have t2 : tEq (zi (h_i h2 (A 4))) (zC F.1.1 c.toNat) := by rw [hh2]; exact t1
        generalize hZ : zC F.1.1 c.toNat = Z at *
        have r4 := M2.ro (i := 4) (n := 10003) m4
        have sbz : sb (zi (h_i h2 (A 4))) := (t2.symm.inv z1).sb
        obtain ⟨s0, hs0⟩ : ∃ s0, s0 = if w = 0 then zTurn Z 0 else zTurn Z 1 := ⟨_, rfl⟩
        obtain ⟨sg, hsg⟩ : ∃ sg : Int, sg = if w = 0 then -1 else 1 := ⟨_, rfl⟩
        have sg2 : sg = -1 ∨ sg = 1 := by rw [hsg]; split <;> omega
        rw [← hs0, ← hsg]
        have tu : ∀ s, zTurn (zi (h_i h2 (A 4))) s = zTurn Z s := fun s => zTurn_congr t2 s
        have le : zLeast (zi (h_i h2 (A 4))) = zLeast Z := zLeast_congr t2
        rw [e1, cl_s, gR_at M2 m4, nn_s, gR_at M2 m4, nn_s, flatFrom_is N (by omega) r4 sbz, flatTo_is N (by omega) r4 sbz, cl_s, cl_s, tu, tu] at st1
        have st2 : f_M_off N h m (iI c) (iI b) (iI w) = f_M_off_73 N h2 m (iI b) (iI w) (iI s0) := by
          rw [st1]
          by_cases w0 : w = 0
          · rw [if_pos (show iI w = (0 : Int32) by rw [w0]; rfl), hs0, if_pos w0]
          · rw [if_neg (show ¬ iI w = (0 : Int32) from fun z => w0 ((iI_eq (b := 0) (by omega) (by omega)).mp z)), hs0, if_neg w0]
        have t3 : (s0 = 100000000 ∨ s0 = -100000000) ∨ (-5000 ≤ s0 ∧ s0 ≤ 5000) := by
          rw [hs0]; split
          · exact turn_3 Z 0
          · exact turn_3 Z 1
        have ok : ∀ r : Int, zOf Z s0 sg b r → f_M_off N h m (iI c) (iI b) (iI w) = some (iI r, h2) → ∃ r : Int, (((0 ≤ c ∧ c ≤ 3) ∧ (0 ≤ w ∧ w ≤ 1)) ∧ (0 ≤ b ∧ b ≤ 1000000) → zOf Z s0 sg b r) ∧ RX ρ A m h (if ((0 ≤ c ∧ c ≤ 3) ∧ (0 ≤ w ∧ w ≤ 1)) ∧ (0 ≤ b ∧ b ≤ 1000000) then iI r else 0) F (if (0 ≤ c ∧ c ≤ 3) ∧ (0 ≤ w ∧ w ≤ 1) then (if 0 ≤ b ∧ b ≤ 1000000 then 0 else 2) else 1) (f_M_off N h m (iI c) (iI b) (iI w)) := fun r o e => ⟨r, fun _ => o, by
          rw [if_pos ⟨⟨qc, qw⟩, qb⟩, if_pos ⟨qc, qw⟩, if_pos qb]
          exact X.x (c1.trans f2.c) X2 e k2⟩
        unfold f_M_off_73 at st2
        rw [somewhere_is N _ (by unfold i32; omega), cl_s] at st2
        rcases t3 with t3 | t3
        · rw [show zSome s0 = -10000000 by unfold zSome; rw [if_neg (by omega)], if_pos (by decide)] at st2
          exact ok (-10000000) (Or.inl ⟨t3, rfl⟩) (by rw [st2]; rfl)
        · have so : zSome s0 = s0 := by unfold zSome; rw [if_pos (by omega)]
          obtain ⟨u0, u1⟩ := off_up z1.1 (w := w) (by omega) hs0 hsg t3
          have u2 := off_far (f := fun d => zVal Z (s0 + sg * d)) u1
          have hb1 := u2 1000001 0 (by omega) (by omega)
          rw [show (0 : Int) + ((1000001 : Nat) : Int) = 1000001 by omega] at hb1
          have lb := val_all z1 (x := s0 + sg * 0) (by rcases sg2 with e | e <;> subst e <;> omega)
          obtain ⟨D, d1, d2, d3, d4⟩ := off128 N hN M2 t2 z1 t3 sg2 (bd := zLeast Z + b) (by omega) 20 0 1000001 (N - 21) (by omega) (by decide) (by omega) (by omega)
          rw [show 20 + (N - 21 + 1) = N by omega] at d4
          refine ok (s0 + sg * D) (Or.inr ⟨t3, D, by omega, rfl, d2, d3⟩) ?_
          rw [st2, so, if_neg (show ¬ iI s0 = (-10000000 : Int32) from fun z => by have := (iI_eq (b := -10000000) (by omega) (by omega)).mp (z.trans (by decide)); omega), gR_at M2 m4, nn_s, leastOf_is N (by omega) r4 sbz, cl_s, le, iI_l (z := b) (by omega) (by omega), lI_add, bn_i]
          unfold f_M_off_111
          have e5 : ∀ y : Int32, y = iI sg → (bn (iI s0 + y * (1000001 : Int32)) fun v1 => f_M_off_128 N N h2 m (lI (zLeast Z + b)) (iI s0) v1) = some (iI (s0 + sg * D), h2) := fun y hy => by
            rw [bn_i, hy, show (1000001 : Int32) = iI 1000001 from rfl, iI_mul, iI_add]
            rw [show s0 + sg * 0 = s0 by rcases sg2 with e | e <;> subst e <;> omega] at d4
            exact d4
          by_cases w0 : w = 0
          · rw [if_pos (show iI w = (0 : Int32) by rw [w0]; rfl)]
            exact e5 (-1) (by rw [hsg, if_pos w0]; decide)
          · rw [if_neg (show ¬ iI w = (0 : Int32) from fun z => w0 ((iI_eq (b := 0) (by omega) (by omega)).mp z))]
            exact e5 1 (by rw [hsg, if_neg w0]; rfl)
      · refine ⟨0, fun z => absurd z.2 qb, ?_⟩
        rw [if_neg (fun z => qb z.2), if_pos ⟨qc, qw⟩, if_neg qb]
        refine X.failX ?_
        rw [st1, if_pos (show (if 0 ≤ b ∧ b ≤ 1000000 then (1 : Int32) else 0) = 0 by rw [if_neg qb]), failM N X1, cl_s]
    · refine ⟨0, fun z => absurd z.1.2 qw, ?_⟩
      rw [if_neg (fun z => qw z.1.2), if_neg (fun z => qw z.2)]
      refine X.failX ?_
      rw [st1, if_pos (show (if 0 ≤ w ∧ w ≤ 1 then (1 : Int32) else 0) = 0 by rw [if_neg qw]), e23]
  · refine ⟨0, fun z => absurd z.1.1 qc, ?_⟩
    rw [if_neg (fun z => qc z.1.1), if_neg (fun z => qc z.1)]
    refine X.failX ?_
    unfold f_M_off
    rw [pI_at X.1.1, cv_at M1, isCost_n N _ _ hc qc, cl_s, if_pos rfl, e23]
end
