/-! THE REFERENCE'S ASKERS, beside the class's: values of a table in a row -/
def s_v (h : hS) (a : Nat) (T : Nat → Int64) : hS := (h.1, h.2.1, h.2.2.1, va_up h.2.2.2.1 a T, h.2.2.2.2)
theorem h_j_sv (h : hS) (a : Nat) (T : Nat → Int64) (b : Nat) : h_j (s_v h a T) b = if b = a then T else h_j h b := rfl
theorem s_v_j (h : hS) (a k : Nat) (v : Int64) (T : Nat → Int64) : s_j (s_v h a T) a k v = s_v h a (vp_updL T k v) := by
  unfold s_j s_v
  simp only []
  refine congrArg (fun x => (h.1, h.2.1, h.2.2.1, x, h.2.2.2.2)) ?_
  funext b
  by_cases e : b = a
  · subst e; simp [va_up]
  · simp [va_up, e]
theorem s_v_self (h : hS) (a : Nat) : s_v h a (h_j h a) = h := by
  unfold s_v
  have : va_up h.2.2.2.1 a (h_j h a) = h.2.2.2.1 := by
    funext b
    by_cases e : b = a
    · subst e; simp [va_up]; rfl
    · simp [va_up, e]
  rw [this]
section
variable {ρ : Nat → Nat} {A : Nat → Nat} {m : Nat} {h g u : hS} {F F' : FT} {a b : Nat}
theorem lays44 (N : Nat) (ra : rj h a 2001) (rb : ro h b 10003) (hZ : zInv (zi (h_i h b))) : ∀ (q k fuel : Nat) (T : Nat → Int64), k + q = 2001 → (∀ j, j < k → T j = lI (zVal (zi (h_i h b)) ((j : Int) - 1000))) → ∃ T', f_M_lays_44 N (q + (fuel + 1)) (s_v h a T) a b (lI (zVal (zi (h_i h b)) ((k : Int) - 1000))) (iI (zS (zi (h_i h b)) (4000 + k))) (iI k) = some ((), s_v h a T') ∧ ∀ j, j < 2001 → T' j = lI (zVal (zi (h_i h b)) ((j : Int) - 1000)) := by
  have lnn : ∀ (T : Nat → Int64) {β : Type} (f : Int32 → Option β), lnA (s_v h a T) 51 (some a) f = f (iI 2001) := fun T {β} f => by
    show (if h_k h a = 51 then f (Int32.ofNat (h_n h a)) else none) = _
    rw [if_pos ra.1, ra.2]; rfl
  intro q
  induction q with
  | zero =>
    intro k fuel T hk ht
    have e : k = 2001 := by omega
    subst e
    refine ⟨T, ?_, ht⟩
    rw [Nat.zero_add]
    unfold f_M_lays_44
    rw [lnn, if_pos (by decide)]
  | succ q ih =>
    intro k fuel T hk ht
    obtain ⟨T', t1, t2⟩ := ih (k + 1) fuel (vp_updL T k (lI (zVal (zi (h_i h b)) ((k : Int) - 1000)))) (by omega) (fun j hj => by
      unfold vp_updL
      by_cases e : j = k
      · rw [if_pos e, e]
      · rw [if_neg e]; exact ht j (by omega))
    refine ⟨T', ?_, t2⟩
    have sl : zVal (zi (h_i h b)) (((k + 1 : Nat) : Int) - 1000) = zVal (zi (h_i h b)) ((k : Int) - 1000) + zS (zi (h_i h b)) (4000 + (k + 1)) := by
      have := slp_S (zi (h_i h b)) (4000 + (k + 1))
      unfold zSlp at this
      rw [show ((4000 + (k + 1) : Nat) : Int) - 5001 = (k : Int) - 1000 by omega, show (k : Int) - 1000 + 1 = ((k + 1 : Nat) : Int) - 1000 by omega] at this
      omega
    have zs : zS (zi (h_i h b)) (4000 + (k + 1)) = zS (zi (h_i h b)) (4000 + k) + zi (h_i h b) (4002 + k) := by
      rw [show 4000 + (k + 1) = (4000 + k) + 1 by omega, zS]
      unfold zW
      rw [if_pos (by omega), show 2 + (4000 + k) = 4002 + k by omega]
    have sbd := hZ.sb (4000 + (k + 1)) (by omega)
    have e1 : iI (k : Int) + (1 : Int32) = iI ((k + 1 : Nat) : Int) := by rw [show (1 : Int32) = iI 1 from rfl, iI_add]; rfl
    have zz : h_i h b (4002 + k) = iI (zi (h_i h b) (4002 + k)) := by unfold zi; rw [toInt_iI]
    rw [show q + 1 + (fuel + 1) = (q + (fuel + 1)) + 1 by omega]
    conv => lhs; unfold f_M_lays_44
    rw [lnn, if_neg (show ¬ iI 2001 ≤ iI (k : Int) from fun z => by have := (iI_le (by omega) (by omega)).mp z; omega), uJ_i (h := s_v h a T) (n := 2001) ra (show k < 2001 by omega) (by omega), s_v_j, show (4002 : Int32) + iI (k : Int) = iI ((4002 + k : Nat) : Int) by rw [show (4002 : Int32) = iI 4002 from rfl, iI_add]; rfl, aI_iI (z := ((4002 + k : Nat) : Int)) (show ro (s_v h a (vp_updL T k (lI (zVal (zi (h_i h b)) ((k : Int) - 1000))))) b 10003 from rb) (by omega) (by omega) (by omega), Int.toNat_natCast, show h_i (s_v h a (vp_updL T k (lI (zVal (zi (h_i h b)) ((k : Int) - 1000))))) b (4002 + k) = iI (zi (h_i h b) (4002 + k)) from zz, bn_i, iI_add, ← zs, bn_i, iI_l (by omega) (by omega), lI_add, ← sl, bn_i, e1]
    exact t1
theorem lays16 (N : Nat) (rb : ro h b 10003) (hZ : zInv (zi (h_i h b))) (x2 : Int64) : ∀ (q k fuel : Nat), k + q = 4000 → f_M_lays_16 N (q + (fuel + 1)) h a b x2 (iI (zS (zi (h_i h b)) k)) (iI k) = f_M_lays_44 N N h a b x2 (iI (zS (zi (h_i h b)) 4000)) (0 : Int32) := by
  intro q
  induction q with
  | zero =>
    intro k fuel hk
    have e : k = 4000 := by omega
    subst e
    rw [Nat.zero_add]
    unfold f_M_lays_16
    rw [if_pos (show (4000 : Int32) ≤ iI ((4000 : Nat) : Int) by decide)]
  | succ q ih =>
    intro k fuel hk
    have zs : zS (zi (h_i h b)) (k + 1) = zS (zi (h_i h b)) k + zi (h_i h b) (2 + k) := by
      rw [zS]; unfold zW; rw [if_pos (by omega)]
    have e1 : iI (k : Int) + (1 : Int32) = iI ((k + 1 : Nat) : Int) := by rw [show (1 : Int32) = iI 1 from rfl, iI_add]; rfl
    have zz : h_i h b (2 + k) = iI (zi (h_i h b) (2 + k)) := by unfold zi; rw [toInt_iI]
    rw [show q + 1 + (fuel + 1) = (q + (fuel + 1)) + 1 by omega]
    conv => lhs; unfold f_M_lays_16
    rw [if_neg (show ¬ (4000 : Int32) ≤ iI (k : Int) from fun z => by have := (iI_le (a := 4000) (by omega) (by omega)).mp z; omega), show (2 : Int32) + iI (k : Int) = iI ((2 + k : Nat) : Int) by rw [show (2 : Int32) = iI 2 from rfl, iI_add]; rfl, aI_iI (z := ((2 + k : Nat) : Int)) rb (by omega) (by omega) (by omega), Int.toNat_natCast, zz, bn_i, iI_add, ← zs, bn_i, e1]
    exact ih (k + 1) fuel (by omega)
theorem lays_is (N : Nat) (hN : 30000 ≤ N) (ra : rj h a 2001) (rb : ro h b 10003) (hZ : zInv (zi (h_i h b))) : ∃ T', f_M_lays N h a b = some ((), s_v h a T') ∧ ∀ j, j < 2001 → T' j = lI (zVal (zi (h_i h b)) ((j : Int) - 1000)) := by
  obtain ⟨T', t1, t2⟩ := lays44 N ra rb hZ 2001 0 (N - 2002) (h_j h a) (by omega) (fun j hj => absurd hj (Nat.not_lt_zero _))
  rw [show 2001 + (N - 2002 + 1) = N by omega, s_v_self] at t1
  have l16 := lays16 (a := a) N rb hZ (lI (zVal (zi (h_i h b)) (-1000))) 4000 0 (N - 4001) (by omega)
  rw [show 4000 + (N - 4001 + 1) = N by omega] at l16
  refine ⟨T', ?_, t2⟩
  unfold f_M_lays
  rw [show (-1000 : Int32) = iI (-1000) by decide, valueAt_is N (by omega) rb (by omega) (by omega), cl_s, show (0 : Int32) = iI 0 from rfl, aI_iI (z := 0) rb (by omega) (by omega) (by omega), show h_i h b (0 : Int).toNat = iI (zS (zi (h_i h b)) 0) by show h_i h b 0 = iI (h_i h b 0).toInt; rw [toInt_iI]]
  refine (show f_M_lays_16 N N h a b (lI (zVal (zi (h_i h b)) (-1000))) (iI (zS (zi (h_i h b)) 0)) (iI ((0 : Nat) : Int)) = _ from l16).trans ?_
  exact t1
theorem frM.v {i : Nat} (hi : i ∈ scJ) (T : Nat → Int64) : frM A m h (s_v h (A i) T) := ⟨⟨rfl, rfl, rfl, rfl, rfl⟩, fun _ _ _ => rfl, fun _ _ => rfl, fun q h1 => by rw [h_j_sv, if_neg (h1 i hi)]⟩
theorem laysBoth_y (N : Nat) (hN : 30000 ≤ N) (X : RM ρ A m h F) {c d : Int} (hc : 0 ≤ c ∧ c ≤ 3) (hd : 0 ≤ d ∧ d ≤ 3) : ∃ g, f_M_laysBoth N h m (iI c) (iI d) = some (1, g) ∧ frM A m h g ∧ h_i g m 1 = h_i h m 1 ∧ (∀ j, j < 2001 → h_j g (A 36) j = lI (zVal (zC F.1.1 c.toNat) ((j : Int) - 1000)) ∧ h_j g (A 37) j = lI (zVal (zC F.1.1 d.toNat) ((j : Int) - 1000))) ∧ zInv (zC F.1.1 c.toNat) ∧ zInv (zC F.1.1 d.toNat) := by
  have m4 : (4, 50, 10003) ∈ mrows := by decide
  have m5 : (5, 50, 10003) ∈ mrows := by decide
  have m36 : (36, 51, 2001) ∈ mrows := by decide
  have m37 : (37, 51, 2001) ∈ mrows := by decide
  obtain ⟨n1, n2⟩ := n4 hc
  obtain ⟨d1, d2⟩ := n4 hd
  obtain ⟨M, s⟩ := X.rs
  obtain ⟨G', e1, f1, k1, t1, t2, z1, z2⟩ := tellBoth_S N (by omega) M (h_i h) s n1 d1
  rw [w_i_self, n2, d2] at e1
  obtain ⟨h2, hh2⟩ : ∃ h2, h2 = w_i h G' := ⟨_, rfl⟩
  have f2 := f1.m
  obtain ⟨X2, _, _⟩ := X.fr f2
  rw [← hh2] at X2 f2 e1
  have M2 := X2.1.1
  have k2 : h_i h2 m 1 = h_i h m 1 := by rw [hh2]; exact k1
  have t1' : tEq (zi (h_i h2 (A 4))) (zC F.1.1 c.toNat) := by rw [hh2]; exact t1
  have t2' : tEq (zi (h_i h2 (A 5))) (zC F.1.1 d.toNat) := by rw [hh2]; exact t2
  have r36 : ∀ g : hS, MO A m g → rj g (A 36) 2001 := fun g M => ⟨(M.2.1 _ m36).2.1, (M.2.1 _ m36).2.2⟩
  have r37 : ∀ g : hS, MO A m g → rj g (A 37) 2001 := fun g M => ⟨(M.2.1 _ m37).2.1, (M.2.1 _ m37).2.2⟩
  obtain ⟨T, a1, a2⟩ := lays_is N hN (r36 h2 M2) (M2.ro (i := 4) (n := 10003) m4) (t1'.symm.inv z1)
  have M3 : MO A m (s_v h2 (A 36) T) := M2
  obtain ⟨S, b1, b2⟩ := lays_is N hN (h := s_v h2 (A 36) T) (r37 _ M3) (M3.ro (i := 5) (n := 10003) m5) (show zInv (zi (h_i h2 (A 5))) from t2'.symm.inv z2)
  refine ⟨s_v (s_v h2 (A 36) T) (A 37) S, ?_, (f2.trans (frM.v (by decide) T)).trans (frM.v (by decide) S), k2, fun j hj => ⟨?_, ?_⟩, z1, z2⟩
  · unfold f_M_laysBoth
    rw [cv_at M, isCost_y N _ _ hc, cl_s, if_neg (by decide), cv_at M, isCost_y N _ _ hd, cl_s, if_neg (by decide), cv_at M, e1, cl_s, gR_at M2 m36, gR_at M2 m4, nn_s, nn_s, a1, cl_s, gR_at M3 m37, gR_at M3 m5, nn_s, nn_s, b1, cl_s, bz_1]
  · rw [h_j_sv, if_neg (M.nn m36 m37 (by decide)), h_j_sv, if_pos rfl, a2 j hj, zVal_congr t1']
  · rw [h_j_sv, if_pos rfl, b2 j hj]
    show lI (zVal (zi (h_i h2 (A 5))) _) = _
    rw [zVal_congr t2']
theorem laysBoth_n (N : Nat) (X : RM ρ A m h F) {c d : Int} (hc : i32 c) (hd : i32 d) (q : ¬ ((0 ≤ c ∧ c ≤ 3) ∧ (0 ≤ d ∧ d ≤ 3))) : f_M_laysBoth N h m (iI c) (iI d) = some (0, h) := by
  have M := X.1.1
  unfold f_M_laysBoth f_M_laysBoth_16
  by_cases q1 : 0 ≤ c ∧ c ≤ 3
  · rw [cv_at M, isCost_y N _ _ q1, cl_s, if_neg (by decide), cv_at M, isCost_n N _ _ hd (fun z => q ⟨q1, z⟩), cl_s, if_pos rfl, bz_0]
  · rw [cv_at M, isCost_n N _ _ hc q1, cl_s, if_pos rfl, bz_0]
end
