/-! THE REFERENCE: SHARING, its rows -/
section
variable {ρ : Nat → Nat} {A : Nat → Nat} {m : Nat} {h g u : hS} {F F' : FT} {a b : Nat}
theorem idx5 {z : Int} (h1 : -5000 ≤ z) (h2 : z ≤ 5000) : (5000 : Int32) + iI z = iI (((5000 + z).toNat : Nat) : Int) := by
  rw [show (5000 : Int32) = iI 5000 from rfl, iI_add]
  congr 1
  omega
theorem MO.rl {i n : Nat} (M : MO A m h) (hi : (i, 51, n) ∈ mrows) : rj h (A i) n := ⟨(M.2.1 _ hi).2.1, (M.2.1 _ hi).2.2⟩
theorem cs16 (N : Nat) (M : MO A m h) : ∀ (q k fuel : Nat) (T : Nat → Int64), k + q = 10001 → (∀ j, j < k → T j = 0) → ∃ T', f_M_clearStands_16 N (q + (fuel + 1)) (s_v h (A 31) T) m (iI k) = some ((), s_v h (A 31) T') ∧ ∀ j, j < 10001 → T' j = 0 := by
  have m31 : (31, 51, 10001) ∈ mrows := by decide
  have lnn : ∀ (T : Nat → Int64) {β : Type} (f : Int32 → Option β), lnA (s_v h (A 31) T) 51 (some (A 31)) f = f (iI 10001) := fun T {β} f => by
    show (if h_k h (A 31) = 51 then f (Int32.ofNat (h_n h (A 31))) else none) = _
    rw [if_pos (M.rl m31).1, (M.rl m31).2]; rfl
  intro q
  induction q with
  | zero =>
    intro k fuel T hk ht
    have e : k = 10001 := by omega
    subst e
    refine ⟨T, ?_, ht⟩
    rw [Nat.zero_add]
    unfold f_M_clearStands_16
    rw [gR_at (h := s_v h (A 31) T) M m31, lnn, if_pos (by decide)]
  | succ q ih =>
    intro k fuel T hk ht
    obtain ⟨T', t1, t2⟩ := ih (k + 1) fuel (vp_updL T k 0) (by omega) (fun j hj => by
      unfold vp_updL
      by_cases e : j = k
      · rw [if_pos e]
      · rw [if_neg e]; exact ht j (by omega))
    refine ⟨T', ?_, t2⟩
    have e1 : iI (k : Int) + (1 : Int32) = iI ((k + 1 : Nat) : Int) := by rw [show (1 : Int32) = iI 1 from rfl, iI_add]; rfl
    rw [show q + 1 + (fuel + 1) = (q + (fuel + 1)) + 1 by omega]
    conv => lhs; unfold f_M_clearStands_16
    rw [gR_at (h := s_v h (A 31) T) M m31, lnn, if_neg (show ¬ iI 10001 ≤ iI (k : Int) from fun z => by have := (iI_le (by omega) (by omega)).mp z; omega), gR_at (h := s_v h (A 31) T) M m31, uJ_i (h := s_v h (A 31) T) (n := 10001) (M.rl m31) (show k < 10001 by omega) (by omega), s_v_j, bn_i, e1]
    exact t1
theorem as80 (N : Nat) (M : MO A m h) (rc : hS → Nat → Nat → Int32 → Int64 → Int32 → Option (Unit × hS)) {s v w : Int} {k : Nat} (hk : k < 10001) (b1 : -5000 ≤ s) (b2 : 0 ≤ w) (b3 : s + w ≤ 5000) : ∀ (q : Nat) (y : Int) (fuel : Nat) (T : Nat → Int64), y + q = s + w + 1 → s + 1 ≤ y → ∃ T', f_M_addStands_80 N rc (q + (fuel + 1)) (s_v h (A 34) T) m b (iI s) (lI v) (iI k) (iI w) (iI y) = rc (s_v h (A 34) T') m b (iI (s + w)) (lI (v + (s + w))) (iI ((k + 1 : Nat) : Int)) ∧ ∀ z : Int, -5000 ≤ z → z ≤ 5000 → T' (5000 + z).toNat = if y ≤ z ∧ z ≤ s + w then lI (z * ((k : Int) - 5000) - v) else T (5000 + z).toNat := by
  have m34 : (34, 51, 10001) ∈ mrows := by decide
  intro q
  induction q with
  | zero =>
    intro y fuel T hy h1
    refine ⟨T, ?_, fun z z1 z2 => by rw [if_neg (by omega)]⟩
    have e1 : iI (k : Int) + (1 : Int32) = iI ((k + 1 : Nat) : Int) := by rw [show (1 : Int32) = iI 1 from rfl, iI_add]; rfl
    rw [Nat.zero_add]
    unfold f_M_addStands_80
    rw [iI_add, if_pos ((iI_lt (by omega) (by omega)).mpr (by omega)), bn_i, bn_i, iI_l (by omega) (by omega), lI_add, bn_i, e1]
  | succ q ih =>
    intro y fuel T hy h1
    obtain ⟨T', t1, t2⟩ := ih (y + 1) fuel (vp_updL T (5000 + y).toNat (lI (y * ((k : Int) - 5000) - v))) (by omega) (by omega)
    refine ⟨T', ?_, fun z z1 z2 => ?_⟩
    · rw [show q + 1 + (fuel + 1) = (q + (fuel + 1)) + 1 by omega]
      conv => lhs; unfold f_M_addStands_80
      rw [iI_add, if_neg (fun z => by have := (iI_lt (by omega) (by omega)).mp z; omega), gR_at (h := s_v h (A 34) T) M m34, idx5 (by omega) (by omega), uJ_i (h := s_v h (A 34) T) (n := 10001) (M.rl m34) (by omega) (by omega), s_v_j, show iI (k : Int) - (5000 : Int32) = iI ((k : Int) - 5000) by rw [show (5000 : Int32) = iI 5000 from rfl, iI_sub], iI_l (by omega) (by omega), iI_l (by omega) (by omega), lI_mul, lI_sub, bn_i, show iI y + (1 : Int32) = iI (y + 1) by rw [show (1 : Int32) = iI 1 from rfl, iI_add]]
      exact t1
    · rw [t2 z z1 z2]
      by_cases q1 : y + 1 ≤ z ∧ z ≤ s + w
      · rw [if_pos q1, if_pos (show y ≤ z ∧ z ≤ s + w by omega)]
      · rw [if_neg q1]
        unfold vp_updL
        by_cases e : z = y
        · rw [if_pos (by rw [e]), if_pos (show y ≤ z ∧ z ≤ s + w by omega), e]
        · rw [if_neg (by omega), if_neg (show ¬ (y ≤ z ∧ z ≤ s + w) by omega)]
theorem as59 (N : Nat) (hN : 30000 ≤ N) (M : MO A m h) (rb : ro h b 10003) (hZ : zInv (zi (h_i h b))) : ∀ (q k fuel : Nat) (T : Nat → Int64), k + q = 10001 → (∀ z : Int, zi (h_i h b) 0 ≤ z → z ≤ zS (zi (h_i h b)) k → T (5000 + z).toNat = lI (zCj (zi (h_i h b)) z)) → ∃ T', f_M_addStands_59 N (q + (fuel + 1)) (s_v h (A 34) T) m b (iI (zS (zi (h_i h b)) k)) (lI (zVal (zi (h_i h b)) ((k : Int) - 5000))) (iI k) = f_M_addStands_140 N N (s_v h (A 34) T') m (iI (zS (zi (h_i h b)) 10001)) (iI (zi (h_i h b) 0)) ∧ ∀ z : Int, zi (h_i h b) 0 ≤ z → z ≤ zS (zi (h_i h b)) 10001 → T' (5000 + z).toNat = lI (zCj (zi (h_i h b)) z) := by
  have hn := hZ.1.1
  have rg := hZ.rng
  have low : ∀ k : Nat, zi (h_i h b) 0 ≤ zS (zi (h_i h b)) k := fun k => by rw [← slp_S]; exact (slp_far hn _).1
  have top : ∀ k : Nat, zS (zi (h_i h b)) k ≤ 5000 := fun k => Int.le_trans (zS_top hn k) rg.2.1
  intro q
  induction q with
  | zero =>
    intro k fuel T hk ht
    have e : k = 10001 := by omega
    subst e
    refine ⟨T, ?_, ht⟩
    rw [Nat.zero_add]
    unfold f_M_addStands_59
    rw [if_pos (show (10001 : Int32) ≤ iI ((10001 : Nat) : Int) by decide), aI_0 (h := s_v h (A 34) T) rb (by omega) (by omega), show h_i (s_v h (A 34) T) b 0 = iI (zi (h_i h b) 0) from (toInt_iI _).symm]
  | succ q ih =>
    intro k fuel T hk ht
    have l1 := low k
    have l2 := top (k + 1)
    have l0 := rg.1
    have wn := hn (2 + k) (by omega) (by omega)
    have zs : zS (zi (h_i h b)) (k + 1) = zS (zi (h_i h b)) k + zi (h_i h b) (2 + k) := by
      rw [zS]; unfold zW; rw [if_pos (by omega)]
    have sl : zVal (zi (h_i h b)) (((k + 1 : Nat) : Int) - 5000) = zVal (zi (h_i h b)) ((k : Int) - 5000) + zS (zi (h_i h b)) (k + 1) := by
      have := slp_S (zi (h_i h b)) (k + 1)
      unfold zSlp at this
      rw [show ((k + 1 : Nat) : Int) - 5001 = (k : Int) - 5000 by omega, show (k : Int) - 5000 + 1 = ((k + 1 : Nat) : Int) - 5000 by omega] at this
      omega
    have zz : h_i h b (2 + k) = iI (zi (h_i h b) (2 + k)) := by unfold zi; rw [toInt_iI]
    have wb : zi (h_i h b) (2 + k) ≤ 10000 := by omega
    obtain ⟨T1, a1, a2⟩ := as80 (b := b) N M (f_M_addStands_59 N (q + (fuel + 1))) (s := zS (zi (h_i h b)) k) (v := zVal (zi (h_i h b)) ((k : Int) - 5000)) (w := zi (h_i h b) (2 + k)) (k := k) (by omega) (by omega) wn (by omega) (zi (h_i h b) (2 + k)).toNat (zS (zi (h_i h b)) k + 1) (N - (zi (h_i h b) (2 + k)).toNat - 1) T (by omega) (by omega)
    rw [show (zi (h_i h b) (2 + k)).toNat + (N - (zi (h_i h b) (2 + k)).toNat - 1 + 1) = N by omega, ← zs, ← sl] at a1
    obtain ⟨T', t1, t2⟩ := ih (k + 1) fuel T1 (by omega) (fun z z1 z2 => by
      rw [a2 z (by omega) (by omega), ← zs]
      by_cases q1 : zS (zi (h_i h b)) k + 1 ≤ z ∧ z ≤ zS (zi (h_i h b)) (k + 1)
      · rw [if_pos q1]
        unfold zCj
        rw [zT_at hn (k := k) (by omega) (by omega) q1.2]
      · rw [if_neg q1]
        exact ht z z1 (by omega))
    refine ⟨T', ?_, t2⟩
    rw [show q + 1 + (fuel + 1) = (q + (fuel + 1)) + 1 by omega]
    conv => lhs; unfold f_M_addStands_59
    rw [if_neg (show ¬ (10001 : Int32) ≤ iI (k : Int) from fun z => by have := (iI_le (a := 10001) (by omega) (by omega)).mp z; omega), show (2 : Int32) + iI (k : Int) = iI ((2 + k : Nat) : Int) by rw [show (2 : Int32) = iI 2 from rfl, iI_add]; rfl, aI_iI (h := s_v h (A 34) T) (z := ((2 + k : Nat) : Int)) rb (by omega) (by omega) (by omega), Int.toNat_natCast, show h_i (s_v h (A 34) T) b (2 + k) = iI (zi (h_i h b) (2 + k)) from zz, bn_i, show iI (zS (zi (h_i h b)) k) + (1 : Int32) = iI (zS (zi (h_i h b)) k + 1) by rw [show (1 : Int32) = iI 1 from rfl, iI_add], a1]
    exact t1
theorem as140 (N : Nat) (M : MO A m h) {E : Int} (hE : E ≤ 5000) : ∀ (q : Nat) (y : Int) (fuel : Nat) (S : Nat → Int64), y + q = E + 1 → -5000 ≤ y → ∃ S', f_M_addStands_140 N (q + (fuel + 1)) (s_v h (A 31) S) m (iI E) (iI y) = some ((), s_v h (A 31) S') ∧ ∀ z : Int, -5000 ≤ z → z ≤ 5000 → S' (5000 + z).toNat = if y ≤ z ∧ z ≤ E then S (5000 + z).toNat + h_j h (A 34) (5000 + z).toNat else S (5000 + z).toNat := by
  have m31 : (31, 51, 10001) ∈ mrows := by decide
  have m34 : (34, 51, 10001) ∈ mrows := by decide
  intro q
  induction q with
  | zero =>
    intro y fuel S hy h1
    refine ⟨S, ?_, fun z z1 z2 => by rw [if_neg (by omega)]⟩
    rw [Nat.zero_add]
    unfold f_M_addStands_140
    rw [if_pos ((iI_lt (by omega) (by omega)).mpr (by omega))]
  | succ q ih =>
    intro y fuel S hy h1
    obtain ⟨S', t1, t2⟩ := ih (y + 1) fuel (vp_updL S (5000 + y).toNat (S (5000 + y).toNat + h_j h (A 34) (5000 + y).toNat)) (by omega) (by omega)
    refine ⟨S', ?_, fun z z1 z2 => ?_⟩
    · have e31 : h_j (s_v h (A 31) S) (A 31) = S := by rw [h_j_sv, if_pos rfl]
      have e34 : h_j (s_v h (A 31) S) (A 34) = h_j h (A 34) := by rw [h_j_sv, if_neg (M.nn m34 m31 (by decide))]
      rw [show q + 1 + (fuel + 1) = (q + (fuel + 1)) + 1 by omega]
      conv => lhs; unfold f_M_addStands_140
      rw [if_neg (fun z => by have := (iI_lt (by omega) (by omega)).mp z; omega), gR_at (h := s_v h (A 31) S) M m31, idx5 (by omega) (by omega), aJ_i (h := s_v h (A 31) S) (n := 10001) (M.rl m31) (by omega) (by omega), gR_at (h := s_v h (A 31) S) M m34, aJ_i (h := s_v h (A 31) S) (n := 10001) (M.rl m34) (by omega) (by omega), uJ_i (h := s_v h (A 31) S) (n := 10001) (M.rl m31) (by omega) (by omega), e31, e34, s_v_j, bn_i, show iI y + (1 : Int32) = iI (y + 1) by rw [show (1 : Int32) = iI 1 from rfl, iI_add]]
      exact t1
    · rw [t2 z z1 z2]
      unfold vp_updL
      by_cases q1 : y + 1 ≤ z ∧ z ≤ E
      · rw [if_pos q1, if_pos (show y ≤ z ∧ z ≤ E by omega), if_neg (by omega)]
      · rw [if_neg q1]
        by_cases e : z = y
        · rw [if_pos (by rw [e]), if_pos (show y ≤ z ∧ z ≤ E by omega), e]
        · rw [if_neg (by omega), if_neg (show ¬ (y ≤ z ∧ z ≤ E) by omega)]
theorem last_is (N : Nat) (hN : 10002 ≤ N) (rb : ro h b 10003) : f_M_last N h b = some (iI (zS (zi (h_i h b)) 10001), h) := by
  unfold f_M_last
  rw [aI_0 rb (by omega) (by omega), weights_z N hN rb, cl_s, zS_all, show h_i h b 0 = iI (zi (h_i h b) 0) from (toInt_iI _).symm, iI_add]
/-- what sharing may change -/
def shM (A : Nat → Nat) (m : Nat) (h g : hS) : Prop := frM A m h g ∧ h_i g m 1 = h_i h m 1 ∧ ∀ q, q ≠ m → h_i g q = h_i h q
theorem shM.trans (x : shM A m h g) (y : shM A m g u) : shM A m h u := ⟨x.1.trans y.1, y.2.1.trans x.2.1, fun q hq => (y.2.2 q hq).trans (x.2.2 q hq)⟩
theorem shM.f (i : Nat) (hi : i ∈ scF) (h1 : i ≠ 1) (v : Int32) : shM A m h (s_i h m i v) := ⟨frM.field hi v, by rw [h_i_si, if_pos rfl, upd_o (Ne.symm h1)], fun q hq => by rw [h_i_si, if_neg hq]⟩
theorem shM.v (i : Nat) (hi : i ∈ scJ) (T : Nat → Int64) : shM A m h (s_v h (A i) T) := ⟨frM.v hi T, rfl, fun _ _ => rfl⟩
theorem addStands_is (N : Nat) (hN : 30000 ≤ N) (M : MO A m h) (rb : ro h b 10003) (bm : b ≠ m) (hZ : zInv (zi (h_i h b))) {lo hi : Int} (hlo : h_i h m 32 = iI lo) (hhi : h_i h m 33 = iI hi) (r1 : -5000 ≤ lo ∧ lo ≤ 5000) (r2 : -5000 ≤ hi ∧ hi ≤ 5000) : ∃ g, f_M_addStands N h m b = some ((), g) ∧ shM A m h g ∧ (h_i g m 32 = iI (max lo (zi (h_i h b) 0)) ∧ h_i g m 33 = iI (min hi (zS (zi (h_i h b)) 10001))) ∧ ∀ z : Int, zi (h_i h b) 0 ≤ z → z ≤ zS (zi (h_i h b)) 10001 → h_j g (A 31) (5000 + z).toNat = h_j h (A 31) (5000 + z).toNat + lI (zCj (zi (h_i h b)) z) := by
  have m31 : (31, 51, 10001) ∈ mrows := by decide
  have m34 : (34, 51, 10001) ∈ mrows := by decide
  have rg := hZ.rng
  have vv := hZ.1.2
  have e0 : h_i h b 0 = iI (zi (h_i h b) 0) := (toInt_iI _).symm
  have e1 : h_i h b 1 = iI (zi (h_i h b) 1) := (toInt_iI _).symm
  obtain ⟨h7, hh7⟩ : ∃ h7, h7 = s_i (s_i h m 32 (iI (max lo (zi (h_i h b) 0)))) m 33 (iI (min hi (zS (zi (h_i h b)) 10001))) := ⟨_, rfl⟩
  have s7 : shM A m h h7 := by rw [hh7]; exact (shM.f 32 (by decide) (by decide) _).trans (shM.f 33 (by decide) (by decide) _)
  have i7 : h_i h7 b = h_i h b := s7.2.2 b bm
  have M7 : MO A m h7 := by rw [hh7]; exact M
  have rb7 : ro h7 b 10003 := by rw [hh7]; exact rb
  have j7 : h_j h7 = h_j h := by rw [hh7]; rfl
  have f32 : h_i h7 m 32 = iI (max lo (zi (h_i h b) 0)) := by rw [hh7, h_i_si, if_pos rfl, upd_o (by decide), h_i_si, if_pos rfl, upd_a]
  have f33 : h_i h7 m 33 = iI (min hi (zS (zi (h_i h b)) 10001)) := by rw [hh7, h_i_si, if_pos rfl, upd_a]
  have hZ7 : zInv (zi (h_i h7 b)) := by rw [i7]; exact hZ
  have v0 : zVal (zi (h_i h b)) (((0 : Nat) : Int) - 5000) = zi (h_i h b) 1 := zVal_n _ 0
  have e59 : ∃ T', f_M_addStands_59 N N (s_v h7 (A 34) (vp_updL (h_j h7 (A 34)) (5000 + zi (h_i h b) 0).toNat (lI (zi (h_i h b) 0 * -5000 - zi (h_i h b) 1)))) m b (iI (zi (h_i h b) 0)) (lI (zi (h_i h b) 1)) (0 : Int32) = f_M_addStands_140 N N (s_v h7 (A 34) T') m (iI (zS (zi (h_i h b)) 10001)) (iI (zi (h_i h b) 0)) ∧ ∀ z : Int, zi (h_i h b) 0 ≤ z → z ≤ zS (zi (h_i h b)) 10001 → T' (5000 + z).toNat = lI (zCj (zi (h_i h b)) z) := by
    have w := as59 N hN M7 rb7 hZ7 10001 0 (N - 10002) (vp_updL (h_j h7 (A 34)) (5000 + zi (h_i h b) 0).toNat (lI (zi (h_i h b) 0 * -5000 - zi (h_i h b) 1))) (by omega) (fun z z1 z2 => by
      rw [i7] at z1 z2 ⊢
      have e : z = zi (h_i h b) 0 := Int.le_antisymm z2 z1
      unfold vp_updL
      rw [e, if_pos rfl]
      unfold zCj zTp
      rw [if_pos (Int.le_refl _)]
      have v0' : zVal (zi (h_i h b)) (-5000) = zi (h_i h b) 1 := v0
      rw [v0'])
    rw [show 10001 + (N - 10002 + 1) = N by omega, i7, v0] at w
    exact w
  obtain ⟨T, t1, t2⟩ := e59
  have M8 : MO A m (s_v h7 (A 34) T) := M7
  have j8 : h_j (s_v h7 (A 34) T) (A 31) = h_j h (A 31) := by rw [h_j_sv, if_neg (M.nn m31 m34 (by decide)), j7]
  have j9 : h_j (s_v h7 (A 34) T) (A 34) = T := by rw [h_j_sv, if_pos rfl]
  obtain ⟨S, u1, u2⟩ := as140 N M8 (E := zS (zi (h_i h b)) 10001) rg.2.1 (zS (zi (h_i h b)) 10001 + 1 - zi (h_i h b) 0).toNat (zi (h_i h b) 0) (N - (zS (zi (h_i h b)) 10001 + 1 - zi (h_i h b) 0).toNat - 1) (h_j (s_v h7 (A 34) T) (A 31)) (by
      generalize zS (zi (h_i h b)) 10001 = q at rg vv
      omega) rg.1
  rw [s_v_self, show (zS (zi (h_i h b)) 10001 + 1 - zi (h_i h b) 0).toNat + (N - (zS (zi (h_i h b)) 10001 + 1 - zi (h_i h b) 0).toNat - 1 + 1) = N by
      generalize zS (zi (h_i h b)) 10001 = q at rg vv
      omega] at u1
  refine ⟨s_v (s_v h7 (A 34) T) (A 31) S, ?_, (s7.trans (shM.v 34 (by decide) T)).trans (shM.v 31 (by decide) S), ⟨f32, f33⟩, fun z z1 z2 => ?_⟩
  · have b0 : (-2147483648 ≤ zi (h_i h b) 0 ∧ zi (h_i h b) 0 ≤ 2147483647) ∧ (-2147483648 ≤ zS (zi (h_i h b)) 10001 ∧ zS (zi (h_i h b)) 10001 ≤ 2147483647) := by
      generalize zS (zi (h_i h b)) 10001 = q at rg vv
      omega
    have b1 : -5000 ≤ zi (h_i h b) 0 ∧ zi (h_i h b) 0 ≤ 5000 := by
      generalize zS (zi (h_i h b)) 10001 = q at rg vv
      omega
    have M3 : MO A m (s_i h m 32 (iI (max lo (zi (h_i h b) 0)))) := M
    have rb3 : ro (s_i h m 32 (iI (max lo (zi (h_i h b) 0)))) b 10003 := rb
    have l3 := last_is N (by omega) rb3
    have i3 : h_i (s_i h m 32 (iI (max lo (zi (h_i h b) 0)))) b = h_i h b := by rw [h_i_si, if_neg bm]
    rw [i3] at l3
    have k3 : h_i (s_i h m 32 (iI (max lo (zi (h_i h b) 0)))) m 33 = iI hi := by rw [h_i_si, if_pos rfl, upd_o (by decide)]; exact hhi
    unfold f_M_addStands
    rw [gI_at M, hlo, aI_0 rb (by omega) (by omega), e0, jmx_is (by omega) b0.1, pI_at M, gI_at M3, k3, l3, cl_s, jmn_is (by omega) b0.2, pI_at M3, ← hh7, aI_0 rb7 (by omega) (by omega), show (1 : Int32) = iI 1 from rfl, aI_iI (z := 1) rb7 (by omega) (by omega) (by omega), i7, e0, show h_i h b (1 : Int).toNat = iI (zi (h_i h b) 1) from e1, bn_i, gR_at M7 m34, idx5 b1.1 b1.2, uJ_i (n := 10001) (M7.rl m34) (by omega) (by omega), iI_l b0.1.1 b0.1.2, iI_l (by have := rg.2.2; omega) (by have := rg.2.2; omega), show (-5000 : Int64) = lI (-5000) from rfl, lI_mul, lI_sub]
    exact t1.trans u1
  · have zb : -5000 ≤ z ∧ z ≤ 5000 := ⟨Int.le_trans rg.1 z1, Int.le_trans z2 rg.2.1⟩
    rw [h_j_sv, if_pos rfl, u2 z zb.1 zb.2, if_pos ⟨z1, z2⟩, j8, j9, t2 z z1 z2]
end
