section
variable {ρ : Nat → Nat} {A : Nat → Nat} {m : Nat} {h g u : hS} {F F' : FT}
theorem unnm.cg {τ : Nat} (U : unnm A h F τ) (h2 : h_i g (A 2) = h_i h (A 2)) (h42 : h_i g (A 42) = h_i h (A 42)) (h52 : h_i g (A 52) = h_i h (A 52)) (h53 : h_i g (A 53) = h_i h (A 53)) : unnm A g F τ := ⟨⟨fun z => U.1.1 ((nmd.i h2).mp z), fun k hk z => U.1.2 k hk ((nmd.i h42).mp z)⟩, fun S hS => ⟨fun z => (U.2 S hS).1 ((nmd.i h52).mp z), fun k hk z => (U.2 S hS).2 k hk ((nmd.i h53).mp z)⟩⟩
/-- a cost is told, and its table laid at τ -/
theorem ontop145 (N : Nat) (hN : 30000 ≤ N) (X : RM ρ A m h F) {c τ ct : Nat} (hc : c < 4) (hτ : τ < 1000) (hct : h_r h (A 7) τ = some ct) (un : unnm A h F τ) : ∃ g, f_M_onTop_145 N h m (iI c) (iI τ) = some (iI τ, g) ∧ RM ρ A m g F ∧ tr ρ h (rg 300) ρ g ∧ hm g = hm h ∧ h_r g = h_r h ∧ onB A g (h_i g) τ (zC F.1.1 c) ∧ (∀ (t : Int) Y, t ≠ τ → onB A h (h_i h) t Y → onB A g (h_i g) t Y) ∧ h_i g (A 16) = upd (h_i h (A 16)) c (iI τ) ∧ (h_i g (A 2) = h_i h (A 2) ∧ h_i g (A 18) = h_i h (A 18) ∧ h_i g (A 19) = h_i h (A 19)) ∧ ∀ j, j ≠ 9 → j ≠ 12 → j ≠ 15 → h_i g m j = h_i h m j := by
  obtain ⟨M, s⟩ := X.rs
  have m7 : (7, 60, 1000) ∈ mrows := by decide
  have m4 : (4, 50, 10003) ∈ mrows := by decide
  have m16 : (16, 50, 4) ∈ mrows := by decide
  obtain ⟨G', e1, f1, k1, t1, z1, _⟩ := tell_S N (by omega) M (h_i h) s hc
  rw [w_i_self] at e1
  have fM := f1.m
  obtain ⟨X3, tr3, hm3⟩ := X.fr fM
  have M3 := X3.1.1
  have ia3 : ∀ i k n, (i, k, n) ∈ mrows → k ≠ 1 → i ∉ scr → G' (A i) = h_i h (A i) := fun i k n hi hk hs => f1.1 _ (fun j hj => by
    have : ∀ j ∈ scr, ∃ q ∈ mrows, q.1 = j := by decide
    obtain ⟨q, hq, rfl⟩ := this j hj
    exact M.nn (i := i) (k := k) (n := n) hi (j := q.1) (k' := q.2.1) (n' := q.2.2) hq (fun e => hs (by rw [e]; exact hj))) (M.ne hi hk)
  have hct3 : h_r (w_i h G') (A 7) τ = some ct := hct
  obtain ⟨n1, n2, n3, n4', n5⟩ := X3.tne hτ hct3
  have un3 : unnm A (w_i h G') F τ := un.cg (ia3 2 50 644 (by decide) (by decide) (by decide)) (ia3 42 50 25760 (by decide) (by decide) (by decide)) (ia3 52 50 644 (by decide) (by decide) (by decide)) (ia3 53 50 25760 (by decide) (by decide) (by decide))
  obtain ⟨X4, tr4, ho4⟩ := X3.tab hτ hct3 un3 (upto (h_i (w_i h G') ct) (h_i (w_i h G') (A 4)) 10003)
  have cp := copyTo_is N (h := w_i h G') (a := ct) (b := A 4) (len := 10003) (by omega) n3 (M3.ro (i := 4) (n := 10003) m4) (n2 _ m4) (by omega)
  obtain ⟨h4, hh4⟩ : ∃ h4, h4 = s_w (w_i h G') ct (upto (h_i (w_i h G') ct) (h_i (w_i h G') (A 4)) 10003) := ⟨_, rfl⟩
  rw [← hh4] at X4 tr4 ho4 cp
  have M4 := X4.1.1
  have f5 : frM A m h4 (s_i h4 (A 16) c (iI τ)) := frM.row (by decide) (M.ne m16 (by decide)) _
  obtain ⟨X5, tr5, hm5⟩ := X4.fr f5
  have ho5 := (X4.ch f5.c).2.2.2.1
  have ho3 := (X.ch fM.c).2.2.2.1
  have i4 : ∀ q, q ≠ ct → h_i h4 q = G' q := fun q hq => by rw [hh4, h_i_sw, if_neg hq]; rfl
  have ia : ∀ i k n, (i, k, n) ∈ mrows → k ≠ 1 → i ∉ scr → i ≠ 16 → h_i (s_i h4 (A 16) c (iI τ)) (A i) = h_i h (A i) := fun i k n hi hk hs hne => by rw [h_i_si, if_neg (M.nn hi m16 hne), i4 _ (fun e => n2 _ hi e.symm), ia3 i k n hi hk hs]
  refine ⟨s_i h4 (A 16) c (iI τ), ?_, X5, (tr3.trans tr4).trans tr5, ?_, ?_, ?_, fun t Y ht O => ho5 t Y (ho4 t Y ht (ho3 t Y O)), ?_, ⟨ia 2 50 644 (by decide) (by decide) (by decide) (by decide), ia 18 50 644 (by decide) (by decide) (by decide) (by decide), ia 19 50 40 (by decide) (by decide) (by decide) (by decide)⟩, fun j q1 q2 q3 => ?_⟩
  · unfold f_M_onTop_145
    have r7 := M3.2.1 (7, 60, 1000) (by decide)
    rw [cv_at M, e1, cl_s, gR_at M3 m7, aR_i (h := w_i h G') (m := 1000) r7.2.1 r7.2.2 hτ (by omega), hct3, gR_at M3 m4]
    simp only [nn]
    rw [cp, cl_s, gR_at M4 m16, uI_iI (z := (c : Int)) (M4.ro (i := 16) (n := 4) m16) (by omega) (by omega) (by omega), Int.toNat_natCast]
  · show hm h4 = hm h
    rw [hh4]; rfl
  · show h_r h4 = h_r h
    rw [hh4]; rfl
  · refine ho5 τ _ ⟨ct, by omega, ?_, ?_, ?_, ?_, z1⟩
    · rw [Int.toNat_natCast]
      show h_r h4 (A 7) τ = some ct
      rw [hh4]; exact hct
    · rw [hh4]; exact n3
    · exact ⟨fun e => n2 _ m4 e.symm, fun e => n2 _ (by decide : (5, 50, 10003) ∈ mrows) e.symm, fun e => n2 _ (by decide : (6, 50, 10003) ∈ mrows) e.symm⟩
    · intro k hk
      rw [hh4, h_i_sw, if_pos rfl]
      unfold zi upto
      rw [if_pos hk]
      exact t1 k hk
  · rw [h_i_si, if_pos rfl, i4 _ (fun e => n2 _ m16 e.symm), ia3 16 50 4 (by decide) (by decide) (by decide)]
  · rw [h_i_si, if_neg (Ne.symm (M.ne m16 (by decide))), i4 _ (Ne.symm n1)]
    by_cases e : j = 1
    · subst e; exact k1
    · exact f1.2 j (by simp only [List.mem_cons, List.not_mem_nil, or_false]; omega)
/-- the table of a cost as it is now -/
theorem onTop_M (N : Nat) (hN : 30000 ≤ N) (X : RM ρ A m h F) (L : LD A h F) {c : Nat} (hc : c < 4) : ∃ ρ' g, ∃ t : Nat, f_M_onTop N h m (iI c) = some (iI t, g) ∧ RM ρ' A m g F ∧ tr ρ h (rg 300) ρ' g ∧ hm g + pTb A g ≤ hm h + pTb A h ∧ t < 1000 ∧ onB A g (h_i g) t (zC F.1.1 c) ∧ LD A g F ∧ (∀ (t' : Int) Y, ((∃ k, k < 4 ∧ h_i h (A 16) k = iI t') ∨ nmd h (A 2) 0 t'.toNat) → (0 ≤ t' ∧ t' < 1000) → onB A h (h_i h) t' Y → onB A g (h_i g) t' Y) ∧ h_i g (A 16) = upd (h_i h (A 16)) c (iI t) ∧ (h_i g (A 2) = h_i h (A 2) ∧ h_i g (A 18) = h_i h (A 18) ∧ h_i g (A 19) = h_i h (A 19)) ∧ ∀ j, j ≠ 9 → j ≠ 12 → j ≠ 15 → h_i g m j = h_i h m j := by
  have M := X.1.1
  have m16 : (16, 50, 4) ∈ mrows := by decide
  have m8 : (8, 53, 1000) ∈ mrows := by decide
  have m7 : (7, 60, 1000) ∈ mrows := by decide
  have m2 : (2, 50, 644) ∈ mrows := by decide
  have m42 : (42, 50, 25760) ∈ mrows := by decide
  have m52 : (52, 50, 644) ∈ mrows := by decide
  have m53 : (53, 50, 25760) ∈ mrows := by decide
  obtain ⟨lc, lc1, lc2⟩ := L c hc
  have e0 : f_M_onTop N h m (iI c) = if iI lc = (-1 : Int32) then (f_M_onTop_19 N N h m (iI c) (0 : Int32)) else some (iI lc, h) := by
    unfold f_M_onTop
    rw [gR_at M m16, aI_iI (z := (c : Int)) (M.ro (i := 16) (n := 4) m16) (by omega) (by omega) (by omega), Int.toNat_natCast, lc1, gR_at M m16, aI_iI (z := (c : Int)) (M.ro (i := 16) (n := 4) m16) (by omega) (by omega) (by omega), Int.toNat_natCast, lc1]
  by_cases q0 : lc = -1
  · rw [if_pos (show iI lc = (-1 : Int32) by rw [q0]; decide)] at e0
    -- the row of names
    obtain ⟨v1, v2, v3, v4⟩ := X.rv
    have B0 : b01 (clz (h_i h (A 8)) 1000) := fun t ht => by unfold clz; rw [if_pos ht]; exact Or.inl rfl
    have l19 := ontop19 N M (iI c) 1000 0 (N - 1001) (by omega)
    rw [clz_0, s_w_self, show 1000 + (N - 1001 + 1) = N by omega] at l19
    obtain ⟨B1, b1, b1', b1''⟩ := names_is N hN M (r := A 2) (S := 4) (by omega) (M.ro (i := 2) (n := 644) m2) (M.nn m2 m8 (by decide)) v1 _ B0
    obtain ⟨B2, b2, b2', b2''⟩ := names_is N hN M (r := A 42) (S := 160) (by omega) (M.ro (i := 42) (n := 25760) m42) (M.nn m42 m8 (by decide)) v2 _ b1'
    obtain ⟨B3, b3, b3', b3''⟩ := names_is N hN M (r := A 52) (S := 4) (by omega) (M.ro (i := 52) (n := 644) m52) (M.nn m52 m8 (by decide)) v3 _ b2'
    obtain ⟨B4, b4, b4', b4''⟩ := names_is N hN M (r := A 53) (S := 160) (by omega) (M.ro (i := 53) (n := 25760) m53) (M.nn m53 m8 (by decide)) v4 _ b3'
    obtain ⟨ls, hls⟩ : ∃ ls : Nat → Int, ∀ k, k < 4 → h_i h (A 16) k = iI (ls k) ∧ (ls k = -1 ∨ ((0 ≤ ls k ∧ ls k < 1000) ∧ onB A h (h_i h) (ls k) (zC F.1.1 k))) := by
      obtain ⟨a0, p0⟩ := L 0 (by omega)
      obtain ⟨a1, p1⟩ := L 1 (by omega)
      obtain ⟨a2, p2⟩ := L 2 (by omega)
      obtain ⟨a3, p3⟩ := L 3 (by omega)
      refine ⟨fun k => if k = 0 then a0 else if k = 1 then a1 else if k = 2 then a2 else a3, fun k hk => ?_⟩
      rcases (show k = 0 ∨ k = 1 ∨ k = 2 ∨ k = 3 by omega) with e | e | e | e <;> subst e
      · exact p0
      · exact p1
      · exact p2
      · exact p3
    obtain ⟨B5, b5, b5', b5''⟩ := ontop75 N M (iI c) (ls := ls) (fun k hk => ⟨(hls k hk).1, (hls k hk).2.imp id (fun z => z.1)⟩) 4 0 (N - 5) B4 (by omega) b4'
    rw [show 4 + (N - 5 + 1) = N by omega] at b5
    have sl := fun t => X.2.2.2.2.1.1.slot (t := t)
    -- all names
    have all : ∀ t, t < 1000 → (B5 t = 1 ↔ (nmd h (A 2) 0 t ∨ (∃ k, k < F.1.2.1 ∧ nmd h (A 42) (644 * k) t)) ∨ (∃ S, F.2.1 = some S ∧ (nmd h (A 52) 0 t ∨ ∃ k, k < S.2.1 ∧ nmd h (A 53) (644 * k) t)) ∨ ∃ k, k < 4 ∧ ls k = (t : Int)) := fun t ht => by
      have img : ((∃ j, j < 4 ∧ nm1 h (A 52) (161 * j) t) ∨ (∃ j, j < 160 ∧ nm1 h (A 53) (161 * j) t)) ↔ ∃ S, F.2.1 = some S ∧ (nmd h (A 52) 0 t ∨ ∃ k, k < S.2.1 ∧ nmd h (A 53) (644 * k) t) := by
        have ri := X.ri
        revert ri
        cases F.2.1 with
        | none =>
          rintro ⟨_, i2, i3⟩
          have z0 : (0 : Int32).toInt = 0 := rfl
          constructor
          · rintro (⟨j, j1, i, _, i4, _⟩ | ⟨j, j1, i, _, i4, _⟩)
            · rw [i2 j j1] at i4; omega
            · rw [show 161 * j = 644 * (j / 4) + 161 * (j % 4) by omega, i3 (j / 4) (by omega) (j % 4) (by omega)] at i4; omega
          · rintro ⟨S, hS, _⟩; cases hS
        | some S =>
          rintro ⟨_, i2, _⟩
          have := i2.slot (t := t)
          rw [this.1, this.2]
          constructor
          · intro z; exact ⟨S, rfl, z⟩
          · rintro ⟨S', hS, z⟩; injection hS with hS; subst hS; exact z
      have z0 : ¬ clz (h_i h (A 8)) 1000 t = 1 := by unfold clz; rw [if_pos ht]; decide
      rw [b5'' t ht, b4'' t ht, b3'' t ht, b2'' t ht, b1'' t ht, (sl t).1, (sl t).2, ← img]
      constructor
      · rintro ((((((z | z) | z) | z) | z) | ⟨k, _, k2, k3⟩))
        · exact absurd z z0
        · exact Or.inl (Or.inl z)
        · exact Or.inl (Or.inr z)
        · exact Or.inr (Or.inl (Or.inl z))
        · exact Or.inr (Or.inl (Or.inr z))
        · exact Or.inr (Or.inr ⟨k, k2, k3⟩)
      · rintro ((z | z) | (z | z) | ⟨k, k2, k3⟩)
        · exact Or.inl (Or.inl (Or.inl (Or.inl (Or.inr z))))
        · exact Or.inl (Or.inl (Or.inl (Or.inr z)))
        · exact Or.inl (Or.inl (Or.inr z))
        · exact Or.inl (Or.inr z)
        · exact Or.inr ⟨k, Nat.zero_le _, k2, k3⟩
    -- one of the first 564 isn't named
    have few : ¬ ∀ t, t < 564 → B5 t = 1 := fun hall => by
      have rt := X.2.2.2.2.1.1
      obtain ⟨L1, k1, k1'⟩ := cov_few rt.2.2.2.2.2.2
      have h40 := rt.2.1.2.1
      obtain ⟨L2, k2, k2'⟩ : ∃ L2 : List Nat, L2.length ≤ 280 ∧ ∀ t, t < 1000 → (∃ S, F.2.1 = some S ∧ (nmd h (A 52) 0 t ∨ ∃ k, k < S.2.1 ∧ nmd h (A 53) (644 * k) t)) → t ∈ L2 := by
        have ri := X.ri
        revert ri
        cases F.2.1 with
        | none => exact fun _ => ⟨[], by simp, fun t _ z => by obtain ⟨S, hS, _⟩ := z; cases hS⟩
        | some S =>
          rintro ⟨_, i2, _⟩
          obtain ⟨L2, j1, j2⟩ := cov_few i2.2.2.2.2.2.2
          have := i2.2.1.2.1
          exact ⟨L2, by omega, fun t ht z => by obtain ⟨S', hS, z⟩ := z; injection hS with hS; subst hS; exact j2 t ht z⟩
      obtain ⟨L3, k3, k3'⟩ : ∃ L3 : List Nat, L3.length = 3 ∧ ∀ t, (∃ k, k < 4 ∧ ls k = ((t : Nat) : Int)) → t ∈ L3 := by
        have hlc : ls c = -1 := by
          have := (hls c hc).1
          rw [lc1, q0] at this
          rcases (hls c hc).2 with z | z
          · exact z
          · have := (iI_eq (by omega) (by omega)).mp this; omega
        refine ⟨((List.range 4).erase c).map (fun k => (ls k).toNat), ?_, fun t z => ?_⟩
        · rw [List.length_map, List.length_erase_of_mem (by rw [List.mem_range]; exact hc), List.length_range]
        · obtain ⟨k, z1, z2⟩ := z
          rw [List.mem_map]
          exact ⟨k, (List.mem_erase_of_ne (fun e => by rw [e, hlc] at z2; omega)).mpr (by rw [List.mem_range]; exact z1), by omega⟩
      have := php 564 (L1 ++ L2 ++ L3) (fun t ht => by
        rw [List.mem_append, List.mem_append]
        rcases (all t (by omega)).mp (hall t ht) with z | z | z
        · exact Or.inl (Or.inl (k1' t (by omega) z))
        · exact Or.inl (Or.inr (k2' t (by omega) z))
        · exact Or.inr (k3' t z))
      rw [List.length_append, List.length_append] at this
      omega
    obtain ⟨τ, τ1, τ2, τ3⟩ := firstz b5' 564 (by omega) few
    have l110 := ontop110 N M (iI c) (show τ < 1000 by omega) τ2 τ 0 (N - τ - 1) (by omega) (fun t _ ht => τ3 t ht)
    rw [show τ + (N - τ - 1 + 1) = N by omega] at l110
    have nn5 : ¬ B5 τ = 1 := by rw [τ2]; decide
    have un0 : unnm A h F τ := ⟨⟨fun z => nn5 ((all τ (by omega)).mpr (Or.inl (Or.inl z))), fun k hk z => nn5 ((all τ (by omega)).mpr (Or.inl (Or.inr ⟨k, hk, z⟩)))⟩, fun S hS => ⟨fun z => nn5 ((all τ (by omega)).mpr (Or.inr (Or.inl ⟨S, hS, Or.inl z⟩))), fun k hk z => nn5 ((all τ (by omega)).mpr (Or.inr (Or.inl ⟨S, hS, Or.inr ⟨k, hk, z⟩⟩)))⟩⟩
    have nl : ∀ k, k < 4 → ls k ≠ (τ : Int) := fun k hk z => nn5 ((all τ (by omega)).mpr (Or.inr (Or.inr ⟨k, hk, z⟩)))
    have f8 := frM.w8 (h := h) (M.ne m8 (by decide)) B5
    obtain ⟨X1, tr1, hm1⟩ := X.fr f8
    have ho1 := (X.ch f8.c).2.2.2.1
    obtain ⟨h1, hh1⟩ : ∃ h1, h1 = s_w h (A 8) B5 := ⟨_, rfl⟩
    rw [← hh1] at X1 tr1 hm1 ho1 l110 f8
    have M1 := X1.1.1
    have ia1 : ∀ i k n, (i, k, n) ∈ mrows → i ≠ 8 → h_i h1 (A i) = h_i h (A i) := fun i k n hi hne => by rw [hh1, h_i_sw, if_neg (M.nn hi m8 hne)]
    have im1 : h_i h1 m = h_i h m := by rw [hh1, h_i_sw, if_neg (Ne.symm (M.ne m8 (by decide)))]
    have r71 : h_r h1 = h_r h := by rw [hh1]; rfl
    have un1 : unnm A h1 F τ := un0.cg (ia1 2 50 644 m2 (by decide)) (ia1 42 50 25760 m42 (by decide)) (ia1 52 50 644 m52 (by decide)) (ia1 53 50 25760 m53 (by decide))
    have est : f_M_onTop N h m (iI c) = (gR h1 (some m) 0 7 fun v3 => aR h1 60 v3 (iI τ) fun v4 => if v4 = none then (gR h1 (some m) 0 7 fun v5 => nwA h1 50 (10003 : Int32) fun q6 h7 => f_M_onTop_144 N h7 m (iI c) (iI τ) v5 (iI τ) (some q6)) else (f_M_onTop_145 N h1 m (iI c) (iI τ))) := by
      have s1 : MO A m (s_w h (A 8) (clz (h_i h (A 8)) 1000)) := M
      have s2 : MO A m (s_w h (A 8) B1) := M
      have s3 : MO A m (s_w h (A 8) B2) := M
      have s4 : MO A m (s_w h (A 8) B3) := M
      rw [e0]
      refine (show f_M_onTop_19 N N h m (iI c) (0 : Int32) = _ from l19).trans ?_
      unfold ot19
      rw [gR_at s1 m2]
      simp only [nn]
      rw [cv_at s1, b1, cl_s, gR_at s2 m42]
      simp only [nn]
      rw [cv_at s2, b2, cl_s, gR_at s3 m52]
      simp only [nn]
      rw [cv_at s3, b3, cl_s, gR_at s4 m53]
      simp only [nn]
      rw [cv_at s4, b4, cl_s]
      refine (show f_M_onTop_75 N N (s_w h (A 8) B4) m (iI c) (0 : Int32) = _ from b5).trans ?_
      rw [← hh1]
      exact l110
    have r7 := M1.2.1 (7, 60, 1000) m7
    -- what onTop_145 leaves, from a heap with a table at τ
    have fin : ∀ (ρ2 : Nat → Nat) (h2 : hS) (ct : Nat), RM ρ2 A m h2 F → tr ρ h (rg 300) ρ2 h2 → hm h2 + pTb A h2 ≤ hm h + pTb A h → h_r h2 (A 7) τ = some ct → (∀ i k n, (i, k, n) ∈ mrows → h_i h2 (A i) = h_i h1 (A i)) → h_i h2 m = h_i h1 m → (∀ (t : Int) Y, onB A h1 (h_i h1) t Y → onB A h2 (h_i h2) t Y) → f_M_onTop N h m (iI c) = f_M_onTop_145 N h2 m (iI c) (iI τ) → ∃ ρ' g, ∃ t : Nat, f_M_onTop N h m (iI c) = some (iI t, g) ∧ RM ρ' A m g F ∧ tr ρ h (rg 300) ρ' g ∧ hm g + pTb A g ≤ hm h + pTb A h ∧ t < 1000 ∧ onB A g (h_i g) t (zC F.1.1 c) ∧ LD A g F ∧ (∀ (t' : Int) Y, ((∃ k, k < 4 ∧ h_i h (A 16) k = iI t') ∨ nmd h (A 2) 0 t'.toNat) → (0 ≤ t' ∧ t' < 1000) → onB A h (h_i h) t' Y → onB A g (h_i g) t' Y) ∧ h_i g (A 16) = upd (h_i h (A 16)) c (iI t) ∧ (h_i g (A 2) = h_i h (A 2) ∧ h_i g (A 18) = h_i h (A 18) ∧ h_i g (A 19) = h_i h (A 19)) ∧ ∀ j, j ≠ 9 → j ≠ 12 → j ≠ 15 → h_i g m j = h_i h m j := fun ρ2 h2 ct X2 t2 p2 c2 i2 im2 o2 e2 => by
      have un2 : unnm A h2 F τ := un1.cg (i2 2 50 644 m2) (i2 42 50 25760 m42) (i2 52 50 644 m52) (i2 53 50 25760 m53)
      obtain ⟨g, g1, g2, g3, g4, g5, g6, g7, g8, g9, g10⟩ := ontop145 N hN X2 hc (by omega) c2 un2
      have i16 : h_i g (A 16) = upd (h_i h (A 16)) c (iI τ) := by rw [g8, i2 16 50 4 m16, ia1 16 50 4 m16 (by decide)]
      have hb : pTb A g = pTb A h2 := by unfold pTb; rw [g5]
      refine ⟨ρ2, g, τ, e2.trans g1, g2, t2.trans g3, by rw [hb, g4]; exact p2, by omega, g6, fun k hk => ?_, fun t' Y ht' hr O => ?_, i16, ⟨by rw [g9.1, i2 2 50 644 m2, ia1 2 50 644 m2 (by decide)], by rw [g9.2.1, i2 18 50 644 (by decide), ia1 18 50 644 (by decide) (by decide)], by rw [g9.2.2, i2 19 50 40 (by decide), ia1 19 50 40 (by decide) (by decide)]⟩, fun j q1 q2 q3 => by rw [g10 j q1 q2 q3, im2, im1]⟩
      · rw [i16]
        unfold upd
        by_cases e : k = c
        · subst e
          exact ⟨τ, by rw [if_pos rfl], Or.inr ⟨by omega, g6⟩⟩
        · obtain ⟨a1, a2⟩ := hls k hk
          refine ⟨ls k, by rw [if_neg e]; exact a1, a2.imp id (fun z => ⟨z.1, g7 _ _ (nl k hk) (o2 _ _ (ho1 _ _ z.2))⟩)⟩
      · have : t' ≠ (τ : Int) := fun e => by
          rcases ht' with ⟨k, k1, k2⟩ | z
          rotate_left
          · rw [e, Int.toNat_natCast] at z
            exact un0.1.1 z
          obtain ⟨a1, a2⟩ := hls k k1
          rw [k2] at a1
          rcases a2 with z | z
          · have := (iI_eq (by omega) (by omega)).mp a1; omega
          · have := (iI_eq (by omega) (by omega)).mp a1
            exact nl k k1 (by omega)
        exact g7 t' Y this (o2 _ _ (ho1 _ _ O))
    have pb1 : pTb A h1 = pTb A h := by unfold pTb; rw [r71]
    rcases X1.2.1.1 τ (by omega) with z | ⟨ct, z1, _⟩
    · obtain ⟨Y1, y2, y3, y4, y5, y6⟩ := X1.alloc (show τ < 1000 by omega) z
      have l7 := (X1.1.2.2 (7, 60, 1000) m7).2
      simp only [] at l7
      refine fin _ _ _ Y1 (tr1.trans y2) (by rw [y6 τ1, hm1, pb1]; exact Nat.le_refl _) y3 (fun i k n hi => y4 _ (X1.1.2.2 _ hi).2) (y4 _ X1.1.2.1.2) y5 ?_
      rw [est, gR_at M1 m7, aR_i (m := 1000) r7.2.1 r7.2.2 (show τ < 1000 by omega) (by omega), z, if_pos rfl, gR_at M1 m7, show (10003 : Int32) = iI ((10003 : Nat) : Int) from rfl, nwA_n (by omega)]
      unfold f_M_onTop_144
      have k7 : h_k (nw h1 50 10003 10003) (A 7) = 60 := by rw [k_nw, if_neg (by omega)]; exact r7.2.1
      have n7 : h_n (nw h1 50 10003 10003) (A 7) = 1000 := by rw [n_nw, if_neg (by omega)]; exact r7.2.2
      have kx : h_k (nw h1 50 10003 10003) (h_x h1) = 50 := by rw [k_nw, if_pos rfl]
      have inb1 : inb (iI (τ : Int)) (h_n (nw h1 50 10003 10003) (A 7)) := by rw [n7, ← nI_iI]; exact nI_in (by omega) (by omega)
      have ua : ∀ {β : Type} (f : hS → Option β), uA (nw h1 50 10003 10003) (some (A 7)) (iI τ) (some (h_x h1)) f = f (s_r (nw h1 50 10003 10003) (A 7) τ (some (h_x h1))) := fun {β} f => by
        show (if h_k (nw h1 50 10003 10003) (A 7) = 60 ∧ inb (iI (τ : Int)) (h_n (nw h1 50 10003 10003) (A 7)) ∧ h_k (nw h1 50 10003 10003) (h_x h1) = 50 then f (s_r (nw h1 50 10003 10003) (A 7) (iI (τ : Int)).toNatClampNeg (some (h_x h1))) else none) = _
        rw [if_pos ⟨k7, inb1, kx⟩, ← nI_iI, nI_clamp (by omega)]
      rw [ua]
    · refine fin ρ h1 ct X1 tr1 (by rw [hm1, pb1]; exact Nat.le_refl _) z1 (fun _ _ _ _ => rfl) rfl (fun _ _ O => O) ?_
      rw [est, gR_at M1 m7, aR_i (m := 1000) r7.2.1 r7.2.2 (show τ < 1000 by omega) (by omega), z1, if_neg (by simp)]
  · have r := lc2.resolve_left q0
    rw [if_neg (show ¬ iI lc = (-1 : Int32) from fun z => q0 ((iI_eq (b := -1) (by omega) (by omega)).mp z))] at e0
    have el : lc = ((lc.toNat : Nat) : Int) := by omega
    refine ⟨ρ, h, lc.toNat, by rw [e0, ← el], X, tr.rf, Nat.le_refl _, by omega, by rw [← el]; exact r.2, L, fun _ _ _ _ O => O, (upd_s (by rw [← el]; exact lc1)).symm, ⟨rfl, rfl, rfl⟩, fun _ _ _ _ => rfl⟩
end
