/-! THE REFERENCE: copy, takes, undo -/
/-- a cost's row comes to the reading row -/
def rdT (R U : Nat → Int32) (o j p : Nat) : Int32 := if p < j then U (161 * o + p) else R p
theorem rdT_u (R U : Nat → Int32) (o j : Nat) : upd (rdT R U o j) j (U (161 * o + j)) = rdT R U o (j + 1) := by
  funext p
  unfold upd rdT
  by_cases e : p = j
  · rw [if_pos e, if_pos (by omega), e]
  · rw [if_neg e]
    by_cases q : p < j
    · rw [if_pos q, if_pos (by omega)]
    · rw [if_neg q, if_neg (by omega)]
theorem rdT_0 (R U : Nat → Int32) (o : Nat) : rdT R U o 0 = R := by
  funext p
  unfold rdT
  rw [if_neg (by omega)]
section
variable {ρ : Nat → Nat} {A : Nat → Nat} {m : Nat} {h g u : hS} {F F' : FT}
theorem frM.w (hA : A 18 ≠ m) (T : Nat → Int32) : frM A m h (s_w h (A 18) T) := by
  refine ⟨⟨rfl, rfl, rfl, rfl, rfl⟩, fun q h1 _ => by rw [h_i_sw, if_neg (h1 18 (by decide))], fun k _ => ?_, fun _ _ => rfl⟩
  rw [h_i_sw, if_neg (Ne.symm hA)]
/-- the reading row becomes the row of a cost -/
theorem read_now (X : RM ρ A m h F) {o : Nat} (ho' : o < 4) : R1 A (s_w h (A 18) (rdT (h_i h (A 18)) (h_i h (A 2)) o 161)) (A 18) 0 (F.1.1 o) ∧ RM ρ A m (s_w h (A 18) (rdT (h_i h (A 18)) (h_i h (A 2)) o 161)) F ∧ frM A m h (s_w h (A 18) (rdT (h_i h (A 18)) (h_i h (A 2)) o 161)) ∧ (∀ t, nm1 (s_w h (A 18) (rdT (h_i h (A 18)) (h_i h (A 2)) o 161)) (A 18) 0 t → nmd h (A 2) 0 t) := by
  have f := frM.w (h := h) (X.mne (i := 18) (k := 50) (n := 644) (by decide) (by decide)) (rdT (h_i h (A 18)) (h_i h (A 2)) o 161)
  obtain ⟨X1, _, _⟩ := X.fr f
  have ho := (X.ch f.c).2.2.2.1
  refine ⟨(X.2.2.2.2.1.1.1 o ho').cg (fun j hj => ?_) ho, X1, f, fun t => ?_⟩
  · rw [h_i_sw, if_pos rfl]
    unfold rdT
    rw [if_pos (by omega)]; congr 1; omega
  · rintro ⟨i, i1, i2, i3, i4⟩
    rw [h_i_sw, if_pos rfl] at i2 i3 i4
    unfold rdT at i2 i3 i4
    rw [if_pos (by omega)] at i2 i3 i4
    refine ⟨o, ho', i, i1, ?_, ?_, ?_⟩
    · rw [show 161 * o + 0 = 0 + 161 * o by omega] at i2; exact i2
    · rw [show 161 * o + (0 + 1 + 4 * i) = 0 + 161 * o + 1 + 4 * i by omega] at i3; exact i3
    · rw [show 161 * o + (0 + 1 + 4 * i + 3) = 0 + 161 * o + 1 + 4 * i + 3 by omega] at i4; exact i4
theorem copy101 (N : Nat) (M : MO A m h) {o : Nat} (ho : o < 4) (x1 : Int32) : ∀ (q j fuel : Nat), j + q = 161 → f_M_copy_101 N (q + (fuel + 1)) (s_w h (A 18) (rdT (h_i h (A 18)) (h_i h (A 2)) o j)) m x1 (iI o) (iI j) = (cv (s_w h (A 18) (rdT (h_i h (A 18)) (h_i h (A 2)) o 161)) (some m) 0 (fun a => f_M_becomes N (s_w h (A 18) (rdT (h_i h (A 18)) (h_i h (A 2)) o 161)) a x1) fun v1 h2 => some (v1, h2)) := by
  have m18 : (18, 50, 644) ∈ mrows := by decide
  have m2 : (2, 50, 644) ∈ mrows := by decide
  have n218 : A 2 ≠ A 18 := M.nn m2 m18 (by decide)
  intro q
  induction q with
  | zero =>
    intro j fuel hj
    have e : j = 161 := by omega
    subst e
    rw [Nat.zero_add]
    unfold f_M_copy_101
    rw [if_pos (show (161 : Int32) ≤ iI ((161 : Nat) : Int) by decide)]
  | succ q ih =>
    intro j fuel hj
    rw [show q + 1 + (fuel + 1) = (q + (fuel + 1)) + 1 by omega]
    unfold f_M_copy_101
    rw [if_neg (show ¬ (161 : Int32) ≤ iI (j : Int) from fun z => absurd ((iI_le (a := 161) (by omega) (by omega)).mp z) (by omega)), gR_at (M.sw _ _) m18, gR_at (M.sw _ _) m2, show (161 : Int32) = iI 161 from rfl, iI_mul, iI_add, aI_iI (z := 161 * (o : Int) + j) ((M.sw _ _).ro (i := 2) (n := 644) m2) (by omega) (by omega) (by omega), show (161 * (o : Int) + (j : Int)).toNat = 161 * o + j by omega, h_i_sw, if_neg n218, uI_iI (z := (j : Int)) ((M.sw _ _).ro (i := 18) (n := 644) m18) (by omega) (by omega) (by omega), Int.toNat_natCast, s_w_i, rdT_u, bn_i, show (1 : Int32) = iI 1 from rfl, iI_add, show (j : Int) + 1 = ((j + 1 : Nat) : Int) by omega]
    exact ih (j + 1) fuel (by omega)
theorem RX.pre {α : Type} {ans : α} {code : Int32} {r : Option (α × hS)} (X : RM ρ A m h F) (c : chM A m h g) (Y : RX ρ A m g ans F' code r) : RX ρ A m h ans F' code r := by
  obtain ⟨ρ', u, e1, e2, e3, e4, e5⟩ := Y
  obtain ⟨t, _, _, _, e6⟩ := X.ch c
  refine ⟨ρ', u, e1, e2, t.trans e3, ?_, e5⟩
  have : pTb A g = pTb A h := by unfold pTb; rw [c.1.2.2.1]
  omega
theorem vC.arg {x : ChT} (v : vC x) : ∀ i, i < x.1 → okArg (x.2.1 i).1 (x.2.1 i).2.1 (x.2.1 i).2.2 := fun i hi => (v.2.1 i hi).1
theorem copy37 (N : Nat) (X : RM ρ A m h F) {c o : Int} (hc : i32 c) (ho : 0 ≤ o ∧ o ≤ 3) : ∀ (q j fuel : Nat) (y : Int32), (y = 0 ∨ y = 1) → j + q = (F.1.1 o.toNat).1 → ((y = 1 ∨ ∃ i, j ≤ i ∧ i < (F.1.1 o.toNat).1 ∧ ((F.1.1 o.toNat).2.1 i).1 = 8 ∧ ((F.1.1 o.toNat).2.1 i).2.1 = c) → f_M_copy_37 N (q + (fuel + 1)) h m (iI c) (iI o) y (iI j) = f_M_copy_26 N h m) ∧ (¬ (y = 1 ∨ ∃ i, j ≤ i ∧ i < (F.1.1 o.toNat).1 ∧ ((F.1.1 o.toNat).2.1 i).1 = 8 ∧ ((F.1.1 o.toNat).2.1 i).2.1 = c) → f_M_copy_37 N (q + (fuel + 1)) h m (iI c) (iI o) y (iI j) = f_M_copy_101 N N h m (iI c) (iI o) (0 : Int32)) := by
  have M := X.1.1
  obtain ⟨o1, o2⟩ := n4 ho
  have v := (X.2.2.2.2.1.2).1 o.toNat o1
  have st := stepsM N X o1
  rw [o2] at st
  intro q
  induction q with
  | zero =>
    intro j fuel y hy hj
    have h40 := v.1
    have e0 : f_M_copy_37 N (0 + (fuel + 1)) h m (iI c) (iI o) y (iI j) = if y = (0 : Int32) then (f_M_copy_101 N N h m (iI c) (iI o) (0 : Int32)) else (cv h (some m) 0 (fun a => f_M_refuse N h a (1 : Int32)) fun v3 h4 => some (v3, h4)) := by
      rw [Nat.zero_add]
      unfold f_M_copy_37
      rw [cv_at M, st, cl_s, if_pos ((iI_le (by omega) (by omega)).mpr (by omega))]
    rw [e0]
    rcases hy with rfl | rfl
    · refine ⟨fun z => ?_, fun _ => by rw [if_pos rfl]⟩
      rcases z with z | ⟨i, z1, z2, _⟩
      · exact absurd z (by decide)
      · omega
    · exact ⟨fun _ => by rw [if_neg (by decide)]; rfl, fun z => absurd (Or.inl rfl) z⟩
  | succ q ih =>
    intro j fuel y hy hj
    have h40 := v.1
    have hjn : j < (F.1.1 o.toNat).1 := by omega
    have s0 := stepAtM N X o1 hjn (w := 0) (by omega)
    have s1 := stepAtM N X o1 hjn (w := 1) (by omega)
    rw [o2] at s0 s1
    rw [if_pos rfl] at s0
    rw [if_neg (by decide), if_pos rfl] at s1
    have oa := v.arg j hjn
    have o8 := (v.2.1 j hjn).2
    have e1 : iI (j : Int) + (1 : Int32) = iI ((j + 1 : Nat) : Int) := by rw [show (1 : Int32) = iI 1 from rfl, iI_add]; rfl
    have go : ∀ y', (y' = 0 ∨ y' = 1) → ((y' = (1 : Int32)) ↔ (y = 1 ∨ (((F.1.1 o.toNat).2.1 j).1 = 8 ∧ ((F.1.1 o.toNat).2.1 j).2.1 = c))) → f_M_copy_37 N (q + 1 + (fuel + 1)) h m (iI c) (iI o) y (iI j) = f_M_copy_37 N (q + (fuel + 1)) h m (iI c) (iI o) y' (iI ((j + 1 : Nat) : Int)) → ((y = 1 ∨ ∃ i, j ≤ i ∧ i < (F.1.1 o.toNat).1 ∧ ((F.1.1 o.toNat).2.1 i).1 = 8 ∧ ((F.1.1 o.toNat).2.1 i).2.1 = c) → f_M_copy_37 N (q + 1 + (fuel + 1)) h m (iI c) (iI o) y (iI j) = f_M_copy_26 N h m) ∧ (¬ (y = 1 ∨ ∃ i, j ≤ i ∧ i < (F.1.1 o.toNat).1 ∧ ((F.1.1 o.toNat).2.1 i).1 = 8 ∧ ((F.1.1 o.toNat).2.1 i).2.1 = c) → f_M_copy_37 N (q + 1 + (fuel + 1)) h m (iI c) (iI o) y (iI j) = f_M_copy_101 N N h m (iI c) (iI o) (0 : Int32)) := fun y' hy' hq e => by
      obtain ⟨i1, i2⟩ := ih (j + 1) fuel y' hy' (by omega)
      have eqv : (y = 1 ∨ ∃ i, j ≤ i ∧ i < (F.1.1 o.toNat).1 ∧ ((F.1.1 o.toNat).2.1 i).1 = 8 ∧ ((F.1.1 o.toNat).2.1 i).2.1 = c) ↔ (y' = 1 ∨ ∃ i, j + 1 ≤ i ∧ i < (F.1.1 o.toNat).1 ∧ ((F.1.1 o.toNat).2.1 i).1 = 8 ∧ ((F.1.1 o.toNat).2.1 i).2.1 = c) := by
        rw [hq]
        constructor
        · rintro (z | ⟨i, z1, z2, z3⟩)
          · exact Or.inl (Or.inl z)
          · by_cases ei : i = j
            · subst ei; exact Or.inl (Or.inr z3)
            · exact Or.inr ⟨i, by omega, z2, z3⟩
        · rintro ((z | z) | ⟨i, z1, z2, z3⟩)
          · exact Or.inl z
          · exact Or.inr ⟨j, Nat.le_refl _, hjn, z⟩
          · exact Or.inr ⟨i, by omega, z2, z3⟩
      rw [e]
      exact ⟨fun z => i1 (eqv.mp z), fun z => i2 (fun w => z (eqv.mpr w))⟩
    have step : f_M_copy_37 N (q + 1 + (fuel + 1)) h m (iI c) (iI o) y (iI j) = if y = (0 : Int32) then (if iI ((F.1.1 o.toNat).2.1 j).1 = (8 : Int32) then (if iI ((F.1.1 o.toNat).2.1 j).2.1 = iI c then f_M_copy_37 N (q + (fuel + 1)) h m (iI c) (iI o) 1 (iI ((j + 1 : Nat) : Int)) else f_M_copy_37 N (q + (fuel + 1)) h m (iI c) (iI o) 0 (iI ((j + 1 : Nat) : Int))) else f_M_copy_37 N (q + (fuel + 1)) h m (iI c) (iI o) 0 (iI ((j + 1 : Nat) : Int))) else f_M_copy_37 N (q + (fuel + 1)) h m (iI c) (iI o) 1 (iI ((j + 1 : Nat) : Int)) := by
      rw [show q + 1 + (fuel + 1) = (q + (fuel + 1)) + 1 by omega]
      conv => lhs; unfold f_M_copy_37
      unfold f_M_copy_76 f_M_copy_80 f_M_copy_81
      rw [cv_at M, st, cl_s, if_neg (fun z => absurd ((iI_le (by omega) (by omega)).mp z) (by omega))]
      simp only [bn_i, e1]
      rw [cv_at M, show (0 : Int32) = iI ((0 : Nat) : Int) from rfl, s0, cl_s, cv_at M, show (1 : Int32) = iI ((1 : Nat) : Int) from rfl, s1, cl_s]
    rcases hy with rfl | rfl
    · rw [if_pos rfl] at step
      by_cases k8 : ((F.1.1 o.toNat).2.1 j).1 = 8
      · rw [if_pos (show iI ((F.1.1 o.toNat).2.1 j).1 = (8 : Int32) by rw [k8]; rfl)] at step
        have r8 := o8 k8
        by_cases kc : ((F.1.1 o.toNat).2.1 j).2.1 = c
        · rw [if_pos (show iI ((F.1.1 o.toNat).2.1 j).2.1 = iI c by rw [kc])] at step
          exact go 1 (Or.inr rfl) ⟨fun _ => Or.inr ⟨k8, kc⟩, fun _ => rfl⟩ step
        · rw [if_neg (fun z => kc ((iI_eq (by omega) hc).mp z))] at step
          exact go 0 (Or.inl rfl) ⟨fun z => absurd z (by decide), fun z => by rcases z with z | z; exact absurd z (by decide); exact absurd z.2 kc⟩ step
      · rw [if_neg (show ¬ iI ((F.1.1 o.toNat).2.1 j).1 = (8 : Int32) from fun z => k8 ((iI_eq (b := 8) (by have := oa.1; omega) (by omega)).mp z))] at step
        exact go 0 (Or.inl rfl) ⟨fun z => absurd z (by decide), fun z => by rcases z with z | z; exact absurd z (by decide); exact absurd z.1 k8⟩ step
    · rw [if_neg (by decide)] at step
      exact go 1 (Or.inr rfl) ⟨fun _ => Or.inl rfl, fun _ => rfl⟩ step
theorem copy_M (N : Nat) (hN : 30000 ≤ N) (X : RM ρ A m h F) {c o : Int} (hc : i32 c) (ho : i32 o) : (copyOk F.1.1 c o → RX ρ A m h (iI ((F.1.1 o.toNat).1 : Int)) (actS F.1 c.toNat (F.1.1 o.toNat), F.2) 0 (f_M_copy N h m (iI c) (iI o))) ∧ (¬ copyOk F.1.1 c o → RX ρ A m h (-1 : Int32) (rfS F.1 1, F.2) 0 (f_M_copy N h m (iI c) (iI o))) := by
  obtain ⟨X1, c1⟩ := X.code 0
  have M1 := X1.1.1
  have v := X.2.2.2.2.1.2
  have no : f_M_copy N h m (iI c) (iI o) = f_M_copy_26 N (s_i h m 1 0) m → RX ρ A m h (-1 : Int32) (rfS F.1 1, F.2) 0 (f_M_copy N h m (iI c) (iI o)) := fun e => by
    obtain ⟨g, b1, b2, b3, b4⟩ := refM_is N X1 (k := 1) (by omega)
    refine X.x (c1.trans b2) b3 ?_ (by rw [b4]; exact code_a h m 0)
    rw [e]
    unfold f_M_copy_26
    rw [cv_at M1, show (1 : Int32) = iI ((1 : Nat) : Int) from rfl, b1, cl_s]
    rfl
  by_cases h1 : 0 ≤ c ∧ c ≤ 3
  · by_cases h2 : 0 ≤ o ∧ o ≤ 3
    · by_cases h3 : c = o
      · refine ⟨fun q => absurd h3 q.2.2.1, fun _ => no ?_⟩
        unfold f_M_copy
        rw [pI_at X.1.1, cv_at M1, isCost_y N _ _ h1, cl_s, if_neg (by decide), cv_at M1, isCost_y N _ _ h2, cl_s, if_neg (by decide), if_pos (by rw [h3])]
      · obtain ⟨n1, n2⟩ := n4 h1
        obtain ⟨o1, o2⟩ := n4 h2
        have e37 : f_M_copy N h m (iI c) (iI o) = f_M_copy_37 N N (s_i h m 1 0) m (iI c) (iI o) 0 (iI ((0 : Nat) : Int)) := by
          unfold f_M_copy
          rw [pI_at X.1.1, cv_at M1, isCost_y N _ _ h1, cl_s, if_neg (by decide), cv_at M1, isCost_y N _ _ h2, cl_s, if_neg (by decide), if_neg (fun z => h3 ((iI_eq hc ho).mp z))]
          rfl
        have h40 := (v.1 o.toNat o1).1
        obtain ⟨k1, k2⟩ := copy37 N X1 hc h2 (F.1.1 o.toNat).1 0 (N - (F.1.1 o.toNat).1 - 1) 0 (Or.inl rfl) (by omega)
        rw [show (F.1.1 o.toNat).1 + (N - (F.1.1 o.toNat).1 - 1 + 1) = N by omega] at k1 k2
        by_cases h4 : ∃ j, j < (F.1.1 o.toNat).1 ∧ ((F.1.1 o.toNat).2.1 j).1 = 8 ∧ ((F.1.1 o.toNat).2.1 j).2.1 = c
        · refine ⟨fun q => absurd h4 q.2.2.2, fun _ => no ?_⟩
          obtain ⟨j, j1, j2⟩ := h4
          rw [e37, k1 (Or.inr ⟨j, Nat.zero_le _, j1, j2⟩)]
        · refine ⟨fun _ => ?_, fun q => absurd ⟨h1, h2, h3, h4⟩ q⟩
          have e101 : f_M_copy N h m (iI c) (iI o) = f_M_copy_101 N N (s_i h m 1 0) m (iI c) (iI o) (0 : Int32) := by
            rw [e37]
            refine k2 (fun z => ?_)
            rcases z with z | ⟨i, _, z2, z3⟩
            · exact absurd z (by decide)
            · exact h4 ⟨i, z2, z3⟩
          have lp := copy101 N M1 o1 (iI c) 161 0 (N - 162) (by omega)
          rw [rdT_0, s_w_self, show 161 + (N - 162 + 1) = N by omega, o2] at lp
          obtain ⟨R2, X2, f2, nm2⟩ := read_now X1 o1
          obtain ⟨bm, _⟩ := becomes_M N hN X2 n1 R2 (v.1 o.toNat o1).arg (fun _ => v.1 o.toNat o1) (D0 := []) (by simp) (fun t _ q => Or.inl ((nmd.cg (fun j _ => by rw [h_i_sw, if_neg (X.nn (by decide : (2, 50, 644) ∈ mrows) (by decide : (18, 50, 644) ∈ mrows) (by decide))])).mpr (nm2 t q)))
          have bm := bm (v.1 o.toNat o1).2.2
          have k0 : h_i (s_w (s_i h m 1 0) (A 18) (rdT (h_i (s_i h m 1 0) (A 18)) (h_i (s_i h m 1 0) (A 2)) o.toNat 161)) m 1 = 0 := by rw [h_i_sw, if_neg (Ne.symm (X.mne (i := 18) (k := 50) (n := 644) (by decide) (by decide)))]; exact code_a h m 0
          rw [k0] at bm
          have bm2 := RX.pre X (c1.trans f2.c) bm
          obtain ⟨ρ', u, u1, u2⟩ := bm2
          refine ⟨ρ', u, ?_, u2⟩
          rw [n2] at u1
          rw [e101]
          refine (show f_M_copy_101 N N (s_i h m 1 0) m (iI c) (iI o) (0 : Int32) = _ from lp).trans ?_
          rw [cv_at X2.1.1, u1, cl_s]
    · refine ⟨fun q => absurd q.2.1 h2, fun _ => no ?_⟩
      unfold f_M_copy
      rw [pI_at X.1.1, cv_at M1, isCost_y N _ _ h1, cl_s, if_neg (by decide), cv_at M1, isCost_n N _ _ ho h2, cl_s, if_pos rfl]
  · refine ⟨fun q => absurd q.1 h1, fun _ => no ?_⟩
    unfold f_M_copy
    rw [pI_at X.1.1, cv_at M1, isCost_n N _ _ hc h1, cl_s, if_pos rfl]
end
