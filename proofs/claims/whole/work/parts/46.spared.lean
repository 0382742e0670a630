/-! isStep, isWeighed; spared, dearest, heaviest -/
def isSt (C : Cs) (c i : Int) : Prop := (0 ≤ c ∧ c ≤ 3) ∧ (0 ≤ i ∧ i < (C c.toNat).1)
theorem isStep_y (N : Nat) {A : Nat → Nat} {m : Nat} {h : hS} (M : MO A m h) (G : Nat → Nat → Int32) {C : Cs} (s : RS A m h G C) {c i : Int} (q : isSt C c i) : f_M_isStep N (w_i h G) m (iI c) (iI i) = some (1, w_i h G) := by
  obtain ⟨q1, q2⟩ := q
  have st := steps_is N M G s (c := c.toNat) (by omega)
  have hn := (s.2 c.toNat (by omega)).1.2.1
  rw [show ((c.toNat : Nat) : Int) = c by omega] at st
  unfold f_M_isStep f_M_isStep_29 f_M_isStep_30 bz
  rw [cv_at (M.wi _), isCost_y N _ _ q1]
  simp only [cl]
  rw [if_neg (show ¬ (1 : Int32) = 0 by decide), cv_at (M.wi _), st]
  simp only [cl]
  rw [show (1 : Int32) = iI 1 from rfl, iI_sub, iI_l (by omega) (by omega), iI_l (by omega) (by omega), show (0 : Int64) = lI 0 from rfl, isIn_y N _ (i32_c (by omega) (by omega)) (i32_c (by omega) (by omega)) (i32_c (by omega) (by omega)) (by omega)]
  simp only []
  rw [if_neg (show ¬ (1 : Int32) = 0 by decide), if_pos (Or.inr trivial)]
theorem isStep_n (N : Nat) {A : Nat → Nat} {m : Nat} {h : hS} (M : MO A m h) (G : Nat → Nat → Int32) {C : Cs} (s : RS A m h G C) {c i : Int} (hc : i32 c) (hi : i32 i) (q : ¬ isSt C c i) : f_M_isStep N (w_i h G) m (iI c) (iI i) = some (0, w_i h G) := by
  unfold f_M_isStep f_M_isStep_29 f_M_isStep_30 bz
  rw [cv_at (M.wi _)]
  by_cases q1 : 0 ≤ c ∧ c ≤ 3
  · have st := steps_is N M G s (c := c.toNat) (by omega)
    have hn := (s.2 c.toNat (by omega)).1.2.1
    rw [show ((c.toNat : Nat) : Int) = c by omega] at st
    have q2 : ¬ (0 ≤ i ∧ i ≤ ((C c.toNat).1 : Int) - 1) := fun z => q ⟨q1, by omega⟩
    rw [isCost_y N _ _ q1]
    simp only [cl]
    rw [if_neg (show ¬ (1 : Int32) = 0 by decide), cv_at (M.wi _), st]
    simp only [cl]
    rw [show ∀ z, iI z - (1 : Int32) = iI (z - 1) from fun z => iI_sub z 1, iI_l hi.1 hi.2, iI_l (by omega) (by omega), show (0 : Int64) = lI 0 from rfl, isIn_n N _ hi (i32_c (by omega) (by omega)) (i32_c (by omega) (by omega)) q2]
    simp only []
    rw [if_pos trivial, if_pos (Or.inl trivial)]
  · rw [isCost_n N _ _ hc q1]
    simp only [cl]
    rw [if_pos trivial, if_pos (Or.inl trivial)]
/-- what a step left out would spare -/
def zSpare (C : Cs) (c i : Nat) (v : Int) : Prop := ((∀ j, j < (C c).1 → okS (C c).2.1 (C c).2.2 i j) → v = zLeast (zC C c) - zLeast (zT (C c).2.1 (C c).2.2 i (C c).1)) ∧ (¬ (∀ j, j < (C c).1 → okS (C c).2.1 (C c).2.2 i j) → v = -1000000000)
theorem zSpare_un {C : Cs} {c i : Nat} {v w : Int} (a : zSpare C c i v) (b : zSpare C c i w) : v = w := by
  by_cases q : ∀ j, j < (C c).1 → okS (C c).2.1 (C c).2.2 i j
  · rw [a.1 q, b.1 q]
  · rw [a.2 q, b.2 q]
theorem sparedBy_S (N : Nat) (hN : 10004 ≤ N) {A : Nat → Nat} {m : Nat} {h : hS} (M : MO A m h) (G : Nat → Nat → Int32) {C : Cs} (s : RS A m h G C) {c i : Nat} (hc : c < 4) (hi : i < (C c).1) : ∃ G' v, f_M_sparedBy N (w_i h G) m (iI c) (iI i) = some (lI v, w_i h G') ∧ fr A m G G' ∧ G' m 1 = G m 1 ∧ zSpare C c i v ∧ (-1000000000 ≤ v ∧ v ≤ 1000000000) := by
  have m4 : (4, 50, 10003) ∈ mrows := by decide
  obtain ⟨G1, e, f, g, t, iv, ws⟩ := tell_S N hN M G s hc
  have iv' := t.symm.inv iv
  have l1 := iv.2.2
  have l2 := iv.2.1.2
  obtain ⟨G2, res, e2, f2, g2, ok, bad⟩ := runsWithout_S N hN M G1 (s.fr M f) hc hi
  unfold f_M_sparedBy f_M_sparedBy_37
  rw [cv_at (M.wi _), e]
  simp only [cl]
  rw [gR_at (M.wi _) m4]
  simp only [nn]
  rw [leastOf_is N (by omega) ((M.wi _).ro m4) (by rw [h_i_wi]; exact iv'.sb), h_i_wi, zLeast_congr t]
  simp only []
  rw [cv_at (M.wi _), e2]
  simp only [cl]
  by_cases q : ∀ j, j < (C c).1 → okS (C c).2.1 (C c).2.2 i j
  · obtain ⟨r, t2, i2⟩ := ok q
    have l3 := i2.2.2
    have l4 := i2.2.1.2
    rw [r, if_neg (show ¬ (1 : Int32) = 0 by decide), gR_at (M.wi _) m4]
    simp only []
    rw [leastOf_is N (by omega) ((M.wi _).ro m4) (by rw [h_i_wi]; exact (t2.symm.inv i2).sb), h_i_wi, zLeast_congr t2]
    simp only []
    rw [lI_sub]
    exact ⟨G2, _, rfl, f.trans f2, by rw [g2, g], ⟨fun _ => rfl, fun z => absurd q z⟩, by omega⟩
  · rw [bad q, if_pos rfl]
    exact ⟨G2, -1000000000, rfl, f.trans f2, by rw [g2, g], ⟨fun z => absurd z q, fun _ => rfl⟩, by omega⟩
theorem spared_S (N : Nat) (hN : 10004 ≤ N) {A : Nat → Nat} {m : Nat} {h : hS} (M : MO A m h) (G : Nat → Nat → Int32) {C : Cs} (s : RS A m h G C) {c i : Int} (hc : i32 c) (hi : i32 i) : (isSt C c i → ∃ v, zSpare C c.toNat i.toNat v ∧ aEnd A m h G (lI v) 0 (f_M_spared N (w_i h G) m (iI c) (iI i))) ∧ (¬ isSt C c i → aEnd A m h G (0 : Int64) 1 (f_M_spared N (w_i h G) m (iI c) (iI i))) := by
  have c0 : va_up G m (upd (G m) 1 0) m 1 = 0 := by simp [va_up, upd]
  have s0 := s.fr M (fr.code (A := A) (m := m) (G := G) 0)
  unfold f_M_spared f_M_spared_29
  rw [pI_at (M.wi G), s_i_wi, cv_at (M.wi _)]
  refine ⟨fun q => ?_, fun q => ?_⟩
  · rw [isStep_y N M _ s0 q]
    simp only [cl]
    obtain ⟨G', v, e, f, g, z, _⟩ := sparedBy_S N hN M _ s0 (c := c.toNat) (i := i.toNat) (by have := q.1; omega) (by have := q.2; omega)
    rw [show ((c.toNat : Nat) : Int) = c by have := q.1; omega, show ((i.toNat : Nat) : Int) = i by have := q.2; omega] at e
    rw [if_neg (show ¬ (1 : Int32) = 0 by decide), cv_at (M.wi _), e]
    exact ⟨v, z, G', rfl, (fr.code 0).trans f, by rw [g, c0]⟩
  · rw [isStep_n N M _ s0 hc hi q]
    simp only [cl]
    rw [if_pos trivial]
    exact fail_S N M (fr.code 0) 1 (fun v => v.toInt64)
theorem weighed_y (N : Nat) {A : Nat → Nat} {m : Nat} {h : hS} (M : MO A m h) (G : Nat → Nat → Int32) {C : Cs} (s : RS A m h G C) {c i : Int} (q : isSt C c i) (hk : ((C c.toNat).2.1 i.toNat).1 ≤ 2) : f_M_isWeighed N (w_i h G) m (iI c) (iI i) = some (1, w_i h G) := by
  have q1 := q.1
  have q2 := q.2
  obtain ⟨s1, s2, s3, sk, sY, sn⟩ := s.st (c := c.toNat) (i := i.toNat) (by omega) (by omega)
  have sa := stepAt_is N M G (c := c.toNat) (i := i.toNat) (w := 0) (by omega) (by omega) (by omega)
  rw [show ((c.toNat : Nat) : Int) = c by omega, show ((i.toNat : Nat) : Int) = i by omega, show 161 * c.toNat + 1 + 4 * i.toNat + 0 = 161 * c.toNat + 1 + 4 * i.toNat by omega, s1, show iI ((0 : Nat) : Int) = (0 : Int32) from rfl] at sa
  unfold f_M_isWeighed f_M_isWeighed_24 f_M_isWeighed_25 bz
  rw [cv_at (M.wi _), isStep_y N M G s q]
  simp only [cl]
  rw [if_neg (show ¬ (1 : Int32) = 0 by decide), cv_at (M.wi _), sa]
  simp only [cl]
  have k0 := sk.1
  rw [if_neg (show ¬ (2 : Int32) < iI ((C c.toNat).2.1 i.toNat).1 from fun z => absurd ((iI_lt (a := 2) (by omega) (by omega)).mp z) (by omega)), if_pos (Or.inr trivial)]
theorem weighed_n (N : Nat) {A : Nat → Nat} {m : Nat} {h : hS} (M : MO A m h) (G : Nat → Nat → Int32) {C : Cs} (s : RS A m h G C) {c i : Int} (hc : i32 c) (hi : i32 i) (q : ¬ (isSt C c i ∧ ((C c.toNat).2.1 i.toNat).1 ≤ 2)) : f_M_isWeighed N (w_i h G) m (iI c) (iI i) = some (0, w_i h G) := by
  unfold f_M_isWeighed f_M_isWeighed_24 f_M_isWeighed_25 bz
  rw [cv_at (M.wi _)]
  by_cases e : isSt C c i
  · have q1 := e.1
    have q2 := e.2
    obtain ⟨s1, s2, s3, sk, sY, sn⟩ := s.st (c := c.toNat) (i := i.toNat) (by omega) (by omega)
    have sa := stepAt_is N M G (c := c.toNat) (i := i.toNat) (w := 0) (by omega) (by omega) (by omega)
    rw [show ((c.toNat : Nat) : Int) = c by omega, show ((i.toNat : Nat) : Int) = i by omega, show 161 * c.toNat + 1 + 4 * i.toNat + 0 = 161 * c.toNat + 1 + 4 * i.toNat by omega, s1, show iI ((0 : Nat) : Int) = (0 : Int32) from rfl] at sa
    rw [isStep_y N M G s e]
    simp only [cl]
    rw [if_neg (show ¬ (1 : Int32) = 0 by decide), cv_at (M.wi _), sa]
    simp only [cl]
    have k0 := sk.1
    have k2 : ¬ ((C c.toNat).2.1 i.toNat).1 ≤ 2 := fun z => q ⟨e, z⟩
    rw [if_pos (show (2 : Int32) < iI ((C c.toNat).2.1 i.toNat).1 from (iI_lt (a := 2) (by omega) (by omega)).mpr (by omega)), if_pos (Or.inl trivial)]
  · rw [isStep_n N M G s hc hi e]
    simp only [cl]
    rw [if_pos trivial, if_pos (Or.inl trivial)]
/-- weight w at step i goes, and costs no more than that much -/
def zGoes (C : Cs) (c i : Nat) (w : Int) : Prop := ∀ j, j < (C c).1 → okS (pW (C c).2.1 i w) (C c).2.2 (-1) j
def zBear (C : Cs) (c i : Nat) (much w : Int) : Prop := zGoes C c i w ∧ zLeast (zT (pW (C c).2.1 i w) (C c).2.2 (-1) (C c).1) ≤ much
/-- the heaviest of the weights up to w that it bears, or -1 -/
def zHeavy (C : Cs) (c i : Nat) (much w v : Int) : Prop := (v = -1 ∧ ∀ u, 0 ≤ u → u ≤ w → ¬ zBear C c i much u) ∨ ((0 ≤ v ∧ v ≤ w) ∧ zBear C c i much v ∧ ∀ u, v < u → u ≤ w → ¬ zBear C c i much u)
theorem heavy_loop (N : Nat) (hN : 10004 ≤ N) {A : Nat → Nat} {m : Nat} {h : hS} (M : MO A m h) {C : Cs} {c i : Nat} (hc : c < 4) (hi : i < (C c).1) (hk : ((C c).2.1 i).1 ≤ 2) {much : Int} (hm : 0 ≤ much ∧ much ≤ 100000000) : ∀ (w fu : Nat) (G : Nat → Nat → Int32), RS A m h G C → w ≤ 41 → w < fu → ∃ G' v, f_M_heaviest_42 N fu (w_i h G) m (iI c) (iI i) (iI much) (iI ((w : Int) - 1)) = some (iI v, w_i h G') ∧ fr A m G G' ∧ G' m 1 = G m 1 ∧ zHeavy C c i much ((w : Int) - 1) v := by
  have m4 : (4, 50, 10003) ∈ mrows := by decide
  intro w
  induction w with
  | zero =>
    intro fu G s hw hfu
    obtain ⟨fu, rfl⟩ : ∃ q, fu = q + 1 := ⟨fu - 1, by omega⟩
    unfold f_M_heaviest_42
    rw [if_pos (show iI (((0 : Nat) : Int) - 1) < (0 : Int32) from (iI_lt (b := 0) (by omega) (by omega)).mpr (by omega))]
    exact ⟨G, -1, rfl, fr.refl, rfl, Or.inl ⟨rfl, fun u h1 h2 => by omega⟩⟩
  | succ w ih =>
    intro fu G s hw hfu
    obtain ⟨fu, rfl⟩ : ∃ q, fu = q + 1 := ⟨fu - 1, by omega⟩
    obtain ⟨G1, res, e, f, g, ok, bad⟩ := runsWith_S N hN M G s hc hi hk (w := w) (by omega)
    unfold f_M_heaviest_42
    rw [show ((w + 1 : Nat) : Int) - 1 = (w : Int) by omega, if_neg (show ¬ iI (w : Int) < (0 : Int32) from fun z => absurd ((iI_lt (b := 0) (by omega) (by omega)).mp z) (by omega)), cv_at (M.wi _), e]
    simp only [cl]
    have go : ¬ zBear C c i much w → ∃ G' v, f_M_heaviest_74 N (f_M_heaviest_42 N fu) (w_i h G1) m (iI c) (iI i) (iI much) (iI w) = some (iI v, w_i h G') ∧ fr A m G G' ∧ G' m 1 = G m 1 ∧ zHeavy C c i much w v := fun nb => by
      obtain ⟨G2, v, e2, f2, g2, z⟩ := ih fu G1 (s.fr M f) (by omega) (by omega)
      refine ⟨G2, v, ?_, f.trans f2, by rw [g2, g], ?_⟩
      · unfold f_M_heaviest_74
        simp only [bn]
        rw [show (-1 : Int32) = iI (-1) from rfl, iI_add, show (w : Int) + -1 = (w : Int) - 1 by omega, e2]
      · have top : ∀ u : Int, ¬ u ≤ (w : Int) - 1 → u ≤ w → ¬ zBear C c i much u := fun u h1 h2 => by rw [show u = (w : Int) by omega]; exact nb
        rcases z with ⟨z1, z2⟩ | ⟨z1, z2, z3⟩
        · refine Or.inl ⟨z1, fun u h1 h2 => ?_⟩
          by_cases q : u ≤ (w : Int) - 1
          · exact z2 u h1 q
          · exact top u q h2
        · refine Or.inr ⟨by omega, z2, fun u h1 h2 => ?_⟩
          by_cases q : u ≤ (w : Int) - 1
          · exact z3 u h1 q
          · exact top u q h2
    by_cases q : zGoes C c i w
    · obtain ⟨r, t, iv⟩ := ok q
      have l1 := iv.2.2
      have l2 := iv.2.1.2
      rw [r, if_neg (show ¬ (1 : Int32) = 0 by decide), gR_at (M.wi _) m4]
      simp only [nn]
      rw [leastOf_is N (by omega) ((M.wi _).ro m4) (by rw [h_i_wi]; exact (t.symm.inv iv).sb), h_i_wi, zLeast_congr t]
      simp only []
      rw [iI_l (by omega) (by omega)]
      by_cases q2 : much < zLeast (zT (pW (C c).2.1 i w) (C c).2.2 (-1) (C c).1)
      · rw [if_pos ((lg_gt0 (by omega) (by omega)).mpr q2)]
        exact go (fun z => absurd z.2 (by omega))
      · rw [if_neg (fun z => q2 ((lg_gt0 (by omega) (by omega)).mp z))]
        exact ⟨G1, w, rfl, f, g, Or.inr ⟨by omega, ⟨q, by omega⟩, fun u h1 h2 => by omega⟩⟩
    · rw [bad q, if_pos rfl]
      exact go (fun z => q z.1)
theorem heaviest_S (N : Nat) (hN : 10004 ≤ N) {A : Nat → Nat} {m : Nat} {h : hS} (M : MO A m h) (G : Nat → Nat → Int32) {C : Cs} (s : RS A m h G C) {c i much : Int} (hc : i32 c) (hi : i32 i) (hm : i32 much) : (¬ (isSt C c i ∧ ((C c.toNat).2.1 i.toNat).1 ≤ 2) → aEnd A m h G (0 : Int32) 1 (f_M_heaviest N (w_i h G) m (iI c) (iI i) (iI much))) ∧ ((isSt C c i ∧ ((C c.toNat).2.1 i.toNat).1 ≤ 2) → (¬ (0 ≤ much ∧ much ≤ 100000000) → aEnd A m h G (0 : Int32) 2 (f_M_heaviest N (w_i h G) m (iI c) (iI i) (iI much))) ∧ ((0 ≤ much ∧ much ≤ 100000000) → ∃ v, zHeavy C c.toNat i.toNat much 40 v ∧ aEnd A m h G (iI v) 0 (f_M_heaviest N (w_i h G) m (iI c) (iI i) (iI much)))) := by
  have c0 : va_up G m (upd (G m) 1 0) m 1 = 0 := by simp [va_up, upd]
  have s0 := s.fr M (fr.code (A := A) (m := m) (G := G) 0)
  unfold f_M_heaviest
  rw [pI_at (M.wi G), s_i_wi, cv_at (M.wi _)]
  refine ⟨fun q => ?_, fun q => ?_⟩
  · rw [weighed_n N M _ s0 hc hi q]
    simp only [cl]
    rw [if_pos trivial]
    exact fail_S N M (fr.code 0) 1 (fun v => v)
  · rw [weighed_y N M _ s0 q.1 q.2]
    simp only [cl]
    rw [if_neg (show ¬ (1 : Int32) = 0 by decide), iI_l hm.1 hm.2, show (0 : Int64) = lI 0 from rfl, show (100000000 : Int64) = lI 100000000 from rfl]
    refine ⟨fun q2 => ?_, fun q2 => ?_⟩
    · rw [isIn_n N _ hm (i32_c (by omega) (by omega)) (i32_c (by omega) (by omega)) q2]
      simp only []
      rw [if_pos trivial]
      exact fail_S N M (fr.code 0) 2 (fun v => v)
    · have q1 := q.1.1
      have q3 := q.1.2
      rw [isIn_y N _ hm (i32_c (by omega) (by omega)) (i32_c (by omega) (by omega)) q2]
      simp only []
      rw [if_neg (show ¬ (1 : Int32) = 0 by decide)]
      obtain ⟨G', v, e, f, g, z⟩ := heavy_loop N hN M (c := c.toNat) (i := i.toNat) (by omega) (by omega) q.2 q2 41 N _ s0 (by omega) (by omega)
      rw [show ((c.toNat : Nat) : Int) = c by omega, show ((i.toNat : Nat) : Int) = i by omega, show ((41 : Nat) : Int) - 1 = 40 by omega] at e
      rw [show (40 : Int32) = iI 40 from rfl, e]
      exact ⟨v, z, G', rfl, (fr.code 0).trans f, by rw [g, c0]⟩
