/-! THE REFERENCE: keep, becomes, copy, takes -/
theorem s_i_i (h : hS) (a k : Nat) (v w : Int32) : s_i (s_i h a k v) a k w = s_i h a k w := by
  unfold s_i
  simp only []
  congr 3
  funext q
  unfold va_up
  by_cases e : q = a
  · rw [if_pos e, if_pos e, if_pos rfl, upd_u]
  · rw [if_neg e, if_neg e, if_neg e]
theorem mixT_u (T U : Nat → Int32) (na j : Nat) : upd (mixT T U na j) (644 * na + j) (U j) = mixT T U na (j + 1) := by
  funext p
  unfold upd mixT
  by_cases e : p = 644 * na + j
  · rw [if_pos e, if_pos ⟨by omega, by omega⟩, show p - 644 * na = j by omega]
  · rw [if_neg e]
    by_cases q : 644 * na ≤ p ∧ p < 644 * na + j
    · rw [if_pos q, if_pos ⟨by omega, by omega⟩]
    · rw [if_neg q, if_neg (by omega)]
theorem mixT_0 (T U : Nat → Int32) (na : Nat) : mixT T U na 0 = T := by
  funext p
  unfold mixT
  rw [if_neg (by omega)]
theorem shfT_u (T : Nat → Int32) {j : Nat} (hj : 644 ≤ j) : upd (shfT T j) (j - 644) (T j) = shfT T (j + 1) := by
  funext p
  unfold upd shfT
  by_cases e : p = j - 644
  · rw [if_pos e, if_pos (by omega), show p + 644 = j by omega]
  · rw [if_neg e]
    by_cases q : p + 644 < j
    · rw [if_pos q, if_pos (by omega)]
    · rw [if_neg q, if_neg (by omega)]
theorem shfT_0 (T : Nat → Int32) : shfT T 644 = T := by
  funext p
  unfold shfT
  rw [if_neg (by omega)]
theorem nwT_u (U R : Nat → Int32) (c j : Nat) : upd (nwT U R c j) (161 * c + j) (R j) = nwT U R c (j + 1) := by
  funext p
  unfold upd nwT
  by_cases e : p = 161 * c + j
  · rw [if_pos e, if_pos ⟨by omega, by omega⟩, show p - 161 * c = j by omega]
  · rw [if_neg e]
    by_cases q : 161 * c ≤ p ∧ p < 161 * c + j
    · rw [if_pos q, if_pos ⟨by omega, by omega⟩]
    · rw [if_neg q, if_neg (by omega)]
theorem nwT_0 (U R : Nat → Int32) (c : Nat) : nwT U R c 0 = U := by
  funext p
  unfold nwT
  rw [if_neg (by omega)]
section
variable {ρ : Nat → Nat} {A : Nat → Nat} {m : Nat} {h g u : hS} {F F' : FT}
theorem MO.sw (M : MO A m h) (a : Nat) (T : Nat → Int32) : MO A m (s_w h a T) := M
theorem keep56 (N : Nat) (M : MO A m h) {na : Nat} (hna : na < 40) (h41 : h_i h m 41 = iI na) (T : Nat → Int32) : ∀ (q j fuel : Nat), j + q = 644 → f_M_keep_56 N (q + (fuel + 1)) (s_w h (A 42) (mixT T (h_i h (A 2)) na j)) m (iI j) = some ((), s_i (s_w h (A 42) (mixT T (h_i h (A 2)) na 644)) m 41 (iI ((na + 1 : Nat) : Int))) := by
  have m42 : (42, 50, 25760) ∈ mrows := by decide
  have m2 : (2, 50, 644) ∈ mrows := by decide
  have n42 : A 42 ≠ m := M.ne m42 (by decide)
  have n422 : A 2 ≠ A 42 := M.nn m2 m42 (by decide)
  intro q
  induction q with
  | zero =>
    intro j fuel hj
    have e : j = 644 := by omega
    subst e
    rw [Nat.zero_add]
    unfold f_M_keep_56
    rw [if_pos (show (644 : Int32) ≤ iI ((644 : Nat) : Int) by decide), gI_at (M.sw _ _), h_i_sw, if_neg (Ne.symm n42), h41, pI_at (M.sw _ _), show iI (na : Int) + (1 : Int32) = iI ((na + 1 : Nat) : Int) by rw [show (1 : Int32) = iI 1 from rfl, iI_add]; rfl]
  | succ q ih =>
    intro j fuel hj
    rw [show q + 1 + (fuel + 1) = (q + (fuel + 1)) + 1 by omega]
    unfold f_M_keep_56
    rw [if_neg (show ¬ (644 : Int32) ≤ iI (j : Int) from fun z => absurd ((iI_le (a := 644) (by omega) (by omega)).mp z) (by omega)), gR_at (M.sw _ _) m42, gI_at (M.sw _ _), h_i_sw, if_neg (Ne.symm n42), h41, gR_at (M.sw _ _) m2, aI_iI (z := (j : Int)) ((M.sw _ _).ro (i := 2) (n := 644) m2) (by omega) (by omega) (by omega), Int.toNat_natCast, h_i_sw, if_neg n422, show (644 : Int32) = iI 644 from rfl, iI_mul, iI_add, uI_iI (z := 644 * (na : Int) + j) ((M.sw _ _).ro (i := 42) (n := 25760) m42) (by omega) (by omega) (by omega), show (644 * (na : Int) + (j : Int)).toNat = 644 * na + j by omega, s_w_i, mixT_u, bn_i, show (1 : Int32) = iI 1 from rfl, iI_add, show (j : Int) + 1 = ((j + 1 : Nat) : Int) by omega]
    exact ih (j + 1) fuel (by omega)
theorem keep13 (N : Nat) (M : MO A m h) (h41 : h_i h m 41 = iI 40) : ∀ (q j fuel : Nat), 644 ≤ j → j + q = 25760 → f_M_keep_13 N (q + (fuel + 1)) (s_w h (A 42) (shfT (h_i h (A 42)) j)) m (iI j) = f_M_keep_54 N (s_i (s_w h (A 42) (shfT (h_i h (A 42)) 25760)) m 41 (iI 39)) m := by
  have m42 : (42, 50, 25760) ∈ mrows := by decide
  have n42 : A 42 ≠ m := M.ne m42 (by decide)
  intro q
  induction q with
  | zero =>
    intro j fuel h1 hj
    have e : j = 25760 := by omega
    subst e
    rw [Nat.zero_add]
    unfold f_M_keep_13
    rw [gR_at (M.sw _ _) m42, lnA_i ((M.sw _ _).ro (i := 42) (n := 25760) m42), if_pos (Int32.le_refl _), gI_at (M.sw _ _), h_i_sw, if_neg (Ne.symm n42), h41, pI_at (M.sw _ _), show iI 40 - (1 : Int32) = iI 39 by decide]
  | succ q ih =>
    intro j fuel h1 hj
    rw [show q + 1 + (fuel + 1) = (q + (fuel + 1)) + 1 by omega]
    unfold f_M_keep_13
    rw [gR_at (M.sw _ _) m42, lnA_i ((M.sw _ _).ro (i := 42) (n := 25760) m42), if_neg (fun z => absurd ((iI_le (by omega) (by omega)).mp z) (by omega)), gR_at (M.sw _ _) m42, gR_at (M.sw _ _) m42, aI_iI (z := (j : Int)) ((M.sw _ _).ro (i := 42) (n := 25760) m42) (by omega) (by omega) (by omega), Int.toNat_natCast, h_i_sw, if_pos rfl, show shfT (h_i h (A 42)) j j = h_i h (A 42) j by unfold shfT; rw [if_neg (by omega)], show (644 : Int32) = iI 644 from rfl, iI_sub, uI_iI (z := (j : Int) - 644) ((M.sw _ _).ro (i := 42) (n := 25760) m42) (by omega) (by omega) (by omega), show ((j : Int) - 644).toNat = j - 644 by omega, s_w_i, shfT_u _ h1, bn_i, show (1 : Int32) = iI 1 from rfl, iI_add, show (j : Int) + 1 = ((j + 1 : Nat) : Int) by omega]
    exact ih (j + 1) fuel (by omega) (by omega)
theorem keepM (N : Nat) (hN : 30000 ≤ N) (M : MO A m h) {na : Nat} (hna : na ≤ 40) (h41 : h_i h m 41 = iI na) : f_M_keep N h m = some ((), s_i (s_w h (A 42) (kpT (h_i h (A 42)) (h_i h (A 2)) na)) m 41 (iI (((if na < 40 then na else 39) + 1 : Nat) : Int))) := by
  have m42 : (42, 50, 25760) ∈ mrows := by decide
  have m2 : (2, 50, 644) ∈ mrows := by decide
  have n42 : A 42 ≠ m := M.ne m42 (by decide)
  have n2 : A 2 ≠ m := M.ne m2 (by decide)
  have n422 : A 2 ≠ A 42 := M.nn m2 m42 (by decide)
  unfold f_M_keep kpT
  rw [gI_at M, h41]
  by_cases e : na < 40
  · have lp := keep56 N M e h41 (h_i h (A 42)) 644 0 (N - 645) (by omega)
    rw [mixT_0, s_w_self, show 644 + (N - 645 + 1) = N by omega] at lp
    rw [if_neg (show ¬ iI (na : Int) = (40 : Int32) from fun z => by have := (iI_eq (b := 40) (by omega) (by omega)).mp z; omega), if_pos e, if_pos e]
    unfold f_M_keep_54
    exact lp
  · have n40 : na = 40 := by omega
    subst n40
    have l1 := keep13 N M h41 (25760 - 644) 644 (N - (25760 - 644) - 1) (by omega) (by omega)
    rw [shfT_0, s_w_self, show 25760 - 644 + (N - (25760 - 644) - 1 + 1) = N by omega] at l1
    have M1 : MO A m (s_i (s_w h (A 42) (shfT (h_i h (A 42)) 25760)) m 41 (iI 39)) := M
    have l2 := keep56 N M1 (na := 39) (by omega) (by rw [h_i_si, if_pos rfl, upd_a]; rfl) (h_i (s_i (s_w h (A 42) (shfT (h_i h (A 42)) 25760)) m 41 (iI 39)) (A 42)) 644 0 (N - 645) (by omega)
    rw [mixT_0, s_w_self, show 644 + (N - 645 + 1) = N by omega] at l2
    rw [if_pos (show iI ((40 : Nat) : Int) = (40 : Int32) from rfl), if_neg e, if_neg e, show (644 : Int32) = iI ((644 : Nat) : Int) from rfl, l1]
    unfold f_M_keep_54
    rw [show (0 : Int32) = iI ((0 : Nat) : Int) from rfl, l2]
    have e1 : h_i (s_i (s_w h (A 42) (shfT (h_i h (A 42)) 25760)) m 41 (iI 39)) (A 42) = shfT (h_i h (A 42)) 25760 := by rw [h_i_si, if_neg n42, h_i_sw, if_pos rfl]
    have e2 : h_i (s_i (s_w h (A 42) (shfT (h_i h (A 42)) 25760)) m 41 (iI 39)) (A 2) = h_i h (A 2) := by rw [h_i_si, if_neg n2, h_i_sw, if_neg n422]
    rw [e1, e2, ← s_i_sw (Ne.symm n42), s_w_w, s_i_i]
theorem beco24 (N : Nat) (M : MO A m h) {c : Nat} (hc : c < 4) : ∀ (q j fuel : Nat), j + q = 161 → f_M_becomes_24 N (q + (fuel + 1)) (s_w h (A 2) (nwT (h_i h (A 2)) (h_i h (A 18)) c j)) m (iI c) (iI j) = some (h_i h (A 18) 0, s_w h (A 2) (nwT (h_i h (A 2)) (h_i h (A 18)) c 161)) := by
  have m18 : (18, 50, 644) ∈ mrows := by decide
  have m2 : (2, 50, 644) ∈ mrows := by decide
  have n182 : A 18 ≠ A 2 := M.nn m18 m2 (by decide)
  intro q
  induction q with
  | zero =>
    intro j fuel hj
    have e : j = 161 := by omega
    subst e
    rw [Nat.zero_add]
    unfold f_M_becomes_24
    rw [if_pos (show (161 : Int32) ≤ iI ((161 : Nat) : Int) by decide), gR_at (M.sw _ _) m18, show (0 : Int32) = iI 0 from rfl, aI_iI (z := 0) ((M.sw _ _).ro (i := 18) (n := 644) m18) (by omega) (by omega) (by omega), h_i_sw, if_neg n182]
    rfl
  | succ q ih =>
    intro j fuel hj
    rw [show q + 1 + (fuel + 1) = (q + (fuel + 1)) + 1 by omega]
    unfold f_M_becomes_24
    rw [if_neg (show ¬ (161 : Int32) ≤ iI (j : Int) from fun z => absurd ((iI_le (a := 161) (by omega) (by omega)).mp z) (by omega)), gR_at (M.sw _ _) m2, gR_at (M.sw _ _) m18, aI_iI (z := (j : Int)) ((M.sw _ _).ro (i := 18) (n := 644) m18) (by omega) (by omega) (by omega), Int.toNat_natCast, h_i_sw, if_neg n182, show (161 : Int32) = iI 161 from rfl, iI_mul, iI_add, uI_iI (z := 161 * (c : Int) + j) ((M.sw _ _).ro (i := 2) (n := 644) m2) (by omega) (by omega) (by omega), show (161 * (c : Int) + (j : Int)).toNat = 161 * c + j by omega, s_w_i, nwT_u, bn_i, show (1 : Int32) = iI 1 from rfl, iI_add, show (j : Int) + 1 = ((j + 1 : Nat) : Int) by omega]
    exact ih (j + 1) fuel (by omega)
theorem firstbad {P : Nat → Prop} : ∀ n, ¬ (∀ j, j < n → P j) → ∃ j, j < n ∧ (∀ i, i < j → P i) ∧ ¬ P j := by
  intro n
  induction n with
  | zero => intro h; exact absurd (fun j hj => absurd hj (Nat.not_lt_zero _)) h
  | succ n ih =>
    intro h
    by_cases q : ∀ j, j < n → P j
    · refine ⟨n, by omega, q, fun z => h (fun j hj => ?_)⟩
      by_cases e : j = n
      · rw [e]; exact z
      · exact q j (by omega)
    · obtain ⟨j, j1, j2, j3⟩ := ih q
      exact ⟨j, by omega, j2, j3⟩
/-- the steps of the reading row are run -/
theorem runsR (N : Nat) (hN : 30000 ≤ N) (X : RM ρ A m h F) {x : ChT} (Rx : R1 A h (A 18) 0 x) (hx : ∀ i, i < x.1 → okArg (x.2.1 i).1 (x.2.1 i).2.1 (x.2.1 i).2.2) : ∃ g res, f_M_runs N h m (A 18) (iI ((0 : Nat) : Int)) = some (res, g) ∧ frM A m h g ∧ h_i g (A 18) = h_i h (A 18) ∧ h_i g (A 19) = h_i h (A 19) ∧ h_i g (A 2) = h_i h (A 2) ∧ (∀ j, j ≠ 9 → j ≠ 12 → h_i g m j = h_i h m j) ∧ (okX x → res = 1) ∧ ∀ j, j < x.1 → (∀ i, i < j → okS x.2.1 x.2.2 (-1) i) → ¬ okS x.2.1 x.2.2 (-1) j → res = 0 ∧ h_i g m 12 = iI j := by
  have M := X.1.1
  have f1 := X.2.2.1
  have hR : rows A m h (h_i h) (A 18) (161 * 0) x.1 x.2.1 x.2.2 (-1) := by
    refine ⟨M.ro (i := 18) (n := 644) (by decide), Rx.2.1, by omega, Rx.1, ⟨f1.1, by omega⟩, -1, f1.2, by omega, by omega, fun i hi hl => ?_⟩
    obtain ⟨q1, q2, q3, t, q4, q5⟩ := Rx.2.2 i hi
    exact ⟨q1, q2, by rw [if_neg (by omega)]; exact q3, hx i hi, t, q4, q5⟩
  obtain ⟨G', res, e1, e2, e3, e4⟩ := runs_is N (by omega) M (h_i h) (cost := 0) hR
  have nn' : ∀ i k n, (i, k, n) ∈ mrows → k ≠ 1 → i ≠ 4 → i ≠ 6 → i ≠ 10 → i ≠ 11 → G' (A i) = h_i h (A i) := fun i k n hi hk h4 h6 h10 h11 => e2.1 _ (M.nn hi (by decide : (4, 50, 10003) ∈ mrows) h4) (M.nn hi (by decide : (6, 50, 10003) ∈ mrows) h6) (M.nn hi (by decide : (10, 50, 40) ∈ mrows) h10) (M.nn hi (by decide : (11, 50, 40) ∈ mrows) h11) (M.ne hi hk)
  refine ⟨w_i h G', res, e1, e2.fr.m, nn' 18 50 644 (by decide) (by decide) (by decide) (by decide) (by decide) (by decide), nn' 19 50 40 (by decide) (by decide) (by decide) (by decide) (by decide) (by decide), nn' 2 50 644 (by decide) (by decide) (by decide) (by decide) (by decide) (by decide), fun j h1 h2 => e2.2 j h1 h2, fun ok => (e3 ok).1, fun j j1 j2 j3 => ?_⟩
  obtain ⟨q1, q2, _⟩ := e4 j j1 j2 j3
  exact ⟨q1, q2⟩
theorem nmd.i {r off t : Nat} (e : h_i g r = h_i h r) : nmd g r off t ↔ nmd h r off t := nmd.cg (fun j _ => by rw [e])
theorem nm1.i {r off t : Nat} (e : h_i g r = h_i h r) (q : nm1 g r off t) : nm1 h r off t := by
  obtain ⟨i, i1, i2, i3, i4⟩ := q
  rw [e] at i2 i3 i4
  exact ⟨i, i1, i2, i3, i4⟩
theorem becomes_M (N : Nat) (hN : 30000 ≤ N) (X : RM ρ A m h F) {c : Nat} (hc : c < 4) {x : ChT} (Rx : R1 A h (A 18) 0 x) (hx : ∀ i, i < x.1 → okArg (x.2.1 i).1 (x.2.1 i).2.1 (x.2.1 i).2.2) (vx : okX x → vC x) {D0 : List Nat} (hD : D0.length ≤ 3) (hD2 : ∀ t, t < 1000 → nm1 h (A 18) 0 t → nmd h (A 2) 0 t ∨ t ∈ D0) : (okX x → RX ρ A m h (iI x.1) (actS F.1 c x, F.2) (h_i h m 1) (f_M_becomes N h m (iI c))) ∧ (¬ okX x → RX ρ A m h (-1 : Int32) (rfS F.1 1, F.2) (h_i h m 1) (f_M_becomes N h m (iI c))) := by
  have M := X.1.1
  have m18 : (18, 50, 644) ∈ mrows := by decide
  have m2 : (2, 50, 644) ∈ mrows := by decide
  have m42 : (42, 50, 25760) ∈ mrows := by decide
  obtain ⟨g, res, e1, e2, e3, e4, e5, e6, e7, e8⟩ := runsR N hN X Rx hx
  obtain ⟨X1, t1, m1⟩ := X.fr e2
  have M1 := X1.1.1
  have ho := (X.ch e2.c).2.2.2.1
  constructor
  · intro ok
    have r1 := e7 ok
    obtain ⟨X2, c2, k2⟩ := X1.acted hc (x := x) (Rx.cg (fun j _ => by rw [e3]) ho) (vx ok) hD (fun t ht q => by
      rcases hD2 t ht (nm1.i e3 q) with z | z
      · exact Or.inl ((nmd.i e5).mpr z)
      · exact Or.inr z)
    have a2 := X1.2.2.2.2.1.1.2.1
    have kp := keepM N hN M1 a2.2.1 a2.1
    have M2 : MO A m (s_i (s_w g (A 42) (kpT (h_i g (A 42)) (h_i g (A 2)) F.1.2.1)) m 41 (iI (((if F.1.2.1 < 40 then F.1.2.1 else 39) + 1 : Nat) : Int))) := M1
    have i2 : h_i (s_i (s_w g (A 42) (kpT (h_i g (A 42)) (h_i g (A 2)) F.1.2.1)) m 41 (iI (((if F.1.2.1 < 40 then F.1.2.1 else 39) + 1 : Nat) : Int))) (A 2) = h_i g (A 2) := by rw [h_i_si, if_neg (M.ne m2 (by decide)), h_i_sw, if_neg (M.nn m2 m42 (by decide))]
    have i18 : h_i (s_i (s_w g (A 42) (kpT (h_i g (A 42)) (h_i g (A 2)) F.1.2.1)) m 41 (iI (((if F.1.2.1 < 40 then F.1.2.1 else 39) + 1 : Nat) : Int))) (A 18) = h_i g (A 18) := by rw [h_i_si, if_neg (M.ne m18 (by decide)), h_i_sw, if_neg (M.nn m18 m42 (by decide))]
    have lp := beco24 N M2 hc 161 0 (N - 162) (by omega)
    rw [nwT_0, s_w_self, show 161 + (N - 162 + 1) = N by omega, i2, i18] at lp
    refine X.x (e2.c.trans c2) X2 ?_ (by rw [k2, e6 1 (by decide) (by decide)])
    unfold f_M_becomes
    rw [gR_at M m18]
    simp only [nn]
    rw [cv_at M, show (0 : Int32) = iI ((0 : Nat) : Int) from rfl, e1, cl_s, if_neg (show ¬ res = iI ((0 : Nat) : Int) by rw [r1]; decide), cv_at M1, kp, cl_s, lp, show h_i g (A 18) 0 = iI x.1 by rw [e3]; exact Rx.1]
    rfl
  · intro nok
    obtain ⟨j, j1, j2, j3⟩ := firstbad x.1 nok
    obtain ⟨r0, _⟩ := e8 j j1 j2 j3
    obtain ⟨g2, b1, b2, b3, b4⟩ := refM_is N X1 (k := 1) (by omega)
    refine X.x (e2.c.trans b2) b3 ?_ (by rw [b4, e6 1 (by decide) (by decide)])
    unfold f_M_becomes
    rw [gR_at M m18]
    simp only [nn]
    rw [cv_at M, show (0 : Int32) = iI ((0 : Nat) : Int) from rfl, e1, cl_s, if_pos (show res = iI ((0 : Nat) : Int) by rw [r0]; rfl), cv_at M1, show (1 : Int32) = iI ((1 : Nat) : Int) from rfl, b1, cl_s]
    rfl
end
