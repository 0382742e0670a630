/-! THE REFERENCE: undo, image, restore -/
section
variable {ρ : Nat → Nat} {A : Nat → Nat} {m : Nat} {h g u : hS} {F F' : FT}
theorem undo26 (N : Nat) (M : MO A m h) {a : Nat} (ha : a < 40) (h41 : h_i h m 41 = iI a) : ∀ (q j fuel : Nat), j + q = 644 → f_M_undo_26 N (q + (fuel + 1)) (s_w (s_w h (A 2) (unT (h_i h (A 2)) (h_i h (A 42)) a j)) (A 42) (zeT (h_i h (A 42)) a j)) m (iI j) = some (iI a, s_w (s_w h (A 2) (unT (h_i h (A 2)) (h_i h (A 42)) a 644)) (A 42) (zeT (h_i h (A 42)) a 644)) := by
  have m42 : (42, 50, 25760) ∈ mrows := by decide
  have m2 : (2, 50, 644) ∈ mrows := by decide
  have n42 : A 42 ≠ m := M.ne m42 (by decide)
  have n2 : A 2 ≠ m := M.ne m2 (by decide)
  have n242 : A 2 ≠ A 42 := M.nn m2 m42 (by decide)
  intro q
  induction q with
  | zero =>
    intro j fuel hj
    have e : j = 644 := by omega
    subst e
    rw [Nat.zero_add]
    unfold f_M_undo_26
    rw [if_pos (show (644 : Int32) ≤ iI ((644 : Nat) : Int) by decide), gI_at ((M.sw _ _).sw _ _), h_i_sw, if_neg (Ne.symm n42), h_i_sw, if_neg (Ne.symm n2), h41]
  | succ q ih =>
    intro j fuel hj
    rw [show q + 1 + (fuel + 1) = (q + (fuel + 1)) + 1 by omega]
    have M1 : MO A m (s_w (s_w h (A 2) (unT (h_i h (A 2)) (h_i h (A 42)) a j)) (A 42) (zeT (h_i h (A 42)) a j)) := M
    have M2 : MO A m (s_w (s_w h (A 2) (unT (h_i h (A 2)) (h_i h (A 42)) a (j + 1))) (A 42) (zeT (h_i h (A 42)) a j)) := M
    have e41 : ∀ X Y, h_i (s_w (s_w h (A 2) X) (A 42) Y) m 41 = iI a := fun X Y => by rw [h_i_sw, if_neg (Ne.symm n42), h_i_sw, if_neg (Ne.symm n2), h41]
    have ei : (644 : Int32) * iI (a : Int) + iI (j : Int) = iI (644 * (a : Int) + j) := by rw [show (644 : Int32) = iI 644 from rfl, iI_mul, iI_add]
    unfold f_M_undo_26
    rw [if_neg (show ¬ (644 : Int32) ≤ iI (j : Int) from fun z => absurd ((iI_le (a := 644) (by omega) (by omega)).mp z) (by omega)), gR_at M1 m2, gR_at M1 m42, gI_at M1, e41, ei, aI_iI (z := 644 * (a : Int) + j) (M1.ro (i := 42) (n := 25760) m42) (by omega) (by omega) (by omega), show (644 * (a : Int) + (j : Int)).toNat = 644 * a + j by omega, h_i_sw, if_pos rfl, show zeT (h_i h (A 42)) a j (644 * a + j) = h_i h (A 42) (644 * a + j) by unfold zeT; rw [if_neg (by omega)], uI_iI (z := (j : Int)) (M1.ro (i := 2) (n := 644) m2) (by omega) (by omega) (by omega), Int.toNat_natCast, s_i_sw n242, s_w_i, unT_u, gR_at M2 m42, gI_at M2, e41, ei, uI_iI (z := 644 * (a : Int) + j) (M2.ro (i := 42) (n := 25760) m42) (by omega) (by omega) (by omega), show (644 * (a : Int) + (j : Int)).toNat = 644 * a + j by omega, s_w_i, zeT_u, bn_i, show iI (j : Int) + (1 : Int32) = iI ((j + 1 : Nat) : Int) by rw [show (1 : Int32) = iI 1 from rfl, iI_add]; rfl]
    exact ih (j + 1) fuel (by omega)
theorem undo_M (N : Nat) (hN : 30000 ≤ N) (X : RM ρ A m h F) : (F.1.2.1 = 0 → RX ρ A m h (-1 : Int32) F 0 (f_M_undo N h m)) ∧ (F.1.2.1 ≠ 0 → RX ρ A m h (iI ((F.1.2.1 - 1 : Nat) : Int)) (backS F.1, F.2) 0 (f_M_undo N h m)) := by
  obtain ⟨X1, c1⟩ := X.code 0
  have M1 := X1.1.1
  obtain ⟨rt, v⟩ := X1.2.2.2.2.1
  obtain ⟨a1, a2, a3, a4, a5, a6, a7⟩ := rt
  constructor
  · intro h0
    refine X.x c1 X1 ?_ (code_a h m 0)
    unfold f_M_undo
    rw [pI_at X.1.1, gI_at M1, a2.1, h0, if_pos (show iI ((0 : Nat) : Int) = (0 : Int32) from rfl)]
  · intro h0
    obtain ⟨na, hna⟩ : ∃ na, na = F.1.2.1 := ⟨_, rfl⟩
    rw [← hna] at h0 a2 a3 a4 a7 ⊢
    have n42 := X.mne (i := 42) (k := 50) (n := 25760) (by decide) (by decide)
    have n2 := X.mne (i := 2) (k := 50) (n := 644) (by decide) (by decide)
    have n242 := X.nn (by decide : (2, 50, 644) ∈ mrows) (by decide : (42, 50, 25760) ∈ mrows) (by decide)
    obtain ⟨h1, hh1⟩ : ∃ h1, h1 = s_i h m 1 0 := ⟨_, rfl⟩
    rw [← hh1] at X1 c1 M1 a1 a2 a3 a4 a5 a6 a7
    have M2 : MO A m (s_i h1 m 41 (iI ((na - 1 : Nat) : Int))) := M1
    have e2 : h_i (s_i h1 m 41 (iI ((na - 1 : Nat) : Int))) (A 2) = h_i h1 (A 2) := by rw [h_i_si, if_neg n2]
    have e42 : h_i (s_i h1 m 41 (iI ((na - 1 : Nat) : Int))) (A 42) = h_i h1 (A 42) := by rw [h_i_si, if_neg n42]
    have lp := undo26 N M2 (a := na - 1) (by omega) (by rw [h_i_si, if_pos rfl, upd_a]) 644 0 (N - 645) (by omega)
    rw [unT_0, zeT_0, s_w_self, s_w_self, show 644 + (N - 645 + 1) = N by omega, e2, e42] at lp
    obtain ⟨g, hg⟩ : ∃ g, g = s_w (s_w (s_i h1 m 41 (iI ((na - 1 : Nat) : Int))) (A 2) (unT (h_i h1 (A 2)) (h_i h1 (A 42)) (na - 1) 644)) (A 42) (zeT (h_i h1 (A 42)) (na - 1) 644) := ⟨_, rfl⟩
    have c2 : chM A m h1 g := by rw [hg]; exact ((chM.rf.f _ _).w (m_na 2 (k := 50) (n := 644) (by decide)) _).w (m_na 42 (k := 50) (n := 25760) (by decide)) _
    have ho := (X1.ch c2).2.2.2.1
    rw [← hg] at lp
    have i2 : h_i g (A 2) = unT (h_i h1 (A 2)) (h_i h1 (A 42)) (na - 1) 644 := by rw [hg, h_i_sw, if_neg n242, h_i_sw, if_pos rfl]
    have i42 : h_i g (A 42) = zeT (h_i h1 (A 42)) (na - 1) 644 := by rw [hg, h_i_sw, if_pos rfl]
    have im : ∀ j, j ≠ 41 → h_i g m j = h_i h1 m j := fun j hj => by rw [hg, h_i_sw, if_neg (Ne.symm n42), h_i_sw, if_neg (Ne.symm n2), h_i_si, if_pos rfl, upd_o hj]
    have i41 : h_i g m 41 = iI ((na - 1 : Nat) : Int) := by rw [hg, h_i_sw, if_neg (Ne.symm n42), h_i_sw, if_neg (Ne.symm n2), h_i_si, if_pos rfl, upd_a]
    have ia : ∀ i k n', (i, k, n') ∈ mrows → k ≠ 1 → i ≠ 42 → i ≠ 2 → h_i g (A i) = h_i h1 (A i) := fun i k n' hi hk q1 q2 => by rw [hg, h_i_sw, if_neg (X.nn hi (by decide : (42, 50, 25760) ∈ mrows) q1), h_i_sw, if_neg (X.nn hi (by decide : (2, 50, 644) ∈ mrows) q2), h_i_si, if_neg (X.mne hi hk)]
    have jj : ∀ q, h_j g q = h_j h1 q := fun q => by rw [hg]; rfl
    have Pn : ∀ p, p < 644 → h_i g (A 2) (0 + p) = h_i h1 (A 42) (644 * (na - 1) + p) := fun p hp => by
      rw [i2, Nat.zero_add]
      unfold unT
      rw [if_pos hp]
    have Pk : ∀ k p, p < 644 → k ≠ na - 1 → h_i g (A 42) (644 * k + p) = h_i h1 (A 42) (644 * k + p) := fun k p hp hk => by
      rw [i42]
      unfold zeT
      rw [if_neg (by omega)]
    have eb : ∀ d, bkC (backS F.1).1 (backS F.1).2.2.1 (backS F.1).2.1 d = bkC F.1.1 F.1.2.2.1 na (d + 1) := fun d => by
      show bkC (upC F.1.1 (F.1.2.2.1 (F.1.2.1 - 1)).1 (F.1.2.2.1 (F.1.2.1 - 1)).2) F.1.2.2.1 (F.1.2.1 - 1) d = _
      rw [← hna]
      exact bk_back F.1.1 F.1.2.2.1 h0 d
    have eC : (backS F.1).1 = bkC F.1.1 F.1.2.2.1 na 1 := eb 0
    have en : (backS F.1).2.1 = na - 1 := by show F.1.2.1 - 1 = _; rw [← hna]
    obtain ⟨D, d1, d2⟩ := a7
    have X2 : RM ρ A m g (backS F.1, F.2) := by
      refine X1.put c2 ⟨im 13 (by decide), im 14 (by decide)⟩ ⟨⟨fun d hd => ?_, ⟨by rw [i41]; show _ = iI ((backS F.1).2.1 : Int); rw [en], by show (backS F.1).2.1 ≤ 40; rw [en]; have := a2.2.1; omega, by rw [im 43 (by decide)]; exact a2.2.2.1, a2.2.2.2⟩, fun k hk d hd => ?_, fun k q1 q2 d hd => ?_, fun k hk => by rw [ia 44 50 8 (by decide) (by decide) (by decide) (by decide), jj]; exact a5 k hk, fun k hk => by rw [ia 3 50 3 (by decide) (by decide) (by decide) (by decide)]; exact a6 k hk, ?_⟩, vS_back v (by rw [← hna]; exact h0)⟩ (X1.ri.cg (ia 52 50 644 (by decide) (by decide) (by decide) (by decide)) (ia 53 50 25760 (by decide) (by decide) (by decide) (by decide)) (ia 54 50 8 (by decide) (by decide) (by decide) (by decide)) (jj _) (ia 55 50 3 (by decide) (by decide) (by decide) (by decide)) (im 49 (by decide)) (im 50 (by decide)) (im 51 (by decide)) ho) (by rw [im 20 (by decide), ia 17 50 600 (by decide) (by decide) (by decide) (by decide)]; exact X1.2.2.2.2.2.2.1) (by rw [im 29 (by decide)]; exact X1.2.2.2.2.2.2.2)
      · have q := a3 (na - 1) (by omega) d hd
        rw [show na - (na - 1) = 1 by omega] at q
        show R1 A g (A 2) (161 * d) ((backS F.1).1 d)
        rw [eC]
        refine q.cg (fun j hj => ?_) ho
        have := Pn (161 * d + j) (by omega)
        rw [Nat.zero_add] at this
        rw [this]; congr 1; omega
      · have hk' : k < na - 1 := by have : k < (backS F.1).2.1 := hk; rw [en] at this; exact this
        have q := a3 k (by omega) d hd
        show R1 A g (A 42) (644 * k + 161 * d) (bkC (backS F.1).1 (backS F.1).2.2.1 (backS F.1).2.1 ((backS F.1).2.1 - k) d)
        rw [eb, en, show na - 1 - k + 1 = na - k by omega]
        refine q.cg (fun j hj => ?_) ho
        rw [show 644 * k + 161 * d + j = 644 * k + (161 * d + j) by omega]
        exact Pk k _ (by omega) (by omega)
      · have q1' : na - 1 ≤ k := by have : (backS F.1).2.1 ≤ k := q1; rw [en] at this; exact this
        by_cases e : k = na - 1
        · rw [i42]
          unfold zeT
          rw [if_pos ⟨by omega, by omega⟩]
        · rw [Pk k (161 * d) (by omega) e]
          exact a4 k (by omega) q2 d hd
      · show cov g (A 2) (A 42) (backS F.1).2.1
        rw [en]
        refine ⟨D, fun k hk => d1 k (by omega), fun k hk t ht q => ?_⟩
        have nk : ∀ k, k ≠ na - 1 → (nmd g (A 42) (644 * k) t ↔ nmd h1 (A 42) (644 * k) t) := fun k hk => nmd.cg (fun j hj => Pk k j hj hk)
        have n0 : nmd g (A 2) 0 t ↔ nmd h1 (A 42) (644 * (na - 1)) t := nmd.cg (fun j hj => Pn j hj)
        have key : (if k + 1 = na then nmd h1 (A 2) 0 t else nmd h1 (A 42) (644 * (k + 1)) t) := by
          rw [if_neg (by omega)]
          by_cases e : k + 1 = na - 1
          · rw [if_pos e] at q
            rw [e]; exact n0.mp q
          · rw [if_neg e] at q
            exact (nk (k + 1) e).mp q
        rcases d2 k (by omega) t ht key with z | z
        · exact Or.inl ((nk k (by omega)).mpr z)
        · exact Or.inr z
    refine X.x (c1.trans c2) X2 ?_ (by rw [im 1 (by decide), hh1]; exact code_a h m 0)
    unfold f_M_undo
    have e1 : iI (na : Int) - (1 : Int32) = iI ((na - 1 : Nat) : Int) := by rw [show (1 : Int32) = iI 1 from rfl, iI_sub]; congr 1; omega
    rw [pI_at X.1.1, ← hh1, gI_at M1, a2.1, if_neg (show ¬ iI (na : Int) = (0 : Int32) from fun z => by have := a2.2.1; have := (iI_eq (b := 0) (by omega) (by omega)).mp z; omega), gI_at M1, a2.1, pI_at M1, e1]
    exact lp
theorem RT0.cp {r0 rp rx rv rs r0' rp' rx' rv' rs' : Nat} {fa fn fa' fn' : Int32} {S : StT} (R : RT0 A h r0 rp rx rv rs fa fn S) (h0 : ∀ j, j < 644 → h_i g r0' j = h_i h r0 j) (hp : ∀ j, j < 25760 → h_i g rp' j = h_i h rp j) (hx : ∀ j, j < 8 → h_i g rx' j = h_i h rx j) (hv : ∀ j, j < 8 → h_j g rv' j = h_j h rv j) (hs : ∀ j, j < 3 → h_i g rs' j = h_i h rs j) (ea : fa' = fa) (en : fn' = fn) (ho : ∀ (t : Int) Y, onB A h (h_i h) t Y → onB A g (h_i g) t Y) : RT0 A g r0' rp' rx' rv' rs' fa' fn' S := by
  obtain ⟨a1, a2, a3, a4, a5, a6, D, d1, d2⟩ := R
  have h40 := a2.2.1
  have h8 := a2.2.2.2
  refine ⟨fun c hc => (a1 c hc).cg (fun j _ => h0 _ (by omega)) ho, by rw [ea, en]; exact a2, fun k hk c hc => (a3 k hk c hc).cg (fun j _ => hp _ (by omega)) ho, fun k h1 h2 c hc => by rw [hp _ (by omega)]; exact a4 k h1 h2 c hc, fun k hk => by rw [hx k (by omega), hv k (by omega)]; exact a5 k hk, fun k hk => by rw [hs k hk]; exact a6 k hk, D, d1, fun k hk t ht q => ?_⟩
  have e0 : nmd g r0' 0 t ↔ nmd h r0 0 t := nmd.cg (fun j hj => h0 _ (by omega))
  have e1 : ∀ k, k < 40 → (nmd g rp' (644 * k) t ↔ nmd h rp (644 * k) t) := fun k hk => nmd.cg (fun j hj => hp _ (by omega))
  have q' : (if k + 1 = S.2.1 then nmd h r0 0 t else nmd h rp (644 * (k + 1)) t) := by
    by_cases e : k + 1 = S.2.1
    · rw [if_pos e] at q ⊢; exact e0.mp q
    · rw [if_neg e] at q ⊢; exact (e1 _ (by omega)).mp q
  rcases d2 k hk t ht q' with z | z
  · exact Or.inl ((e1 _ (by omega)).mpr z)
  · exact Or.inr z
def uptoL (T U : Nat → Int64) (j k : Nat) : Int64 := if k < j then U k else T k
theorem uptoL_u (T U : Nat → Int64) (j : Nat) : vp_updL (uptoL T U j) j (U j) = uptoL T U (j + 1) := by
  funext p
  unfold vp_updL uptoL
  by_cases e : p = j
  · rw [if_pos e, if_pos (by omega), e]
  · rw [if_neg e]
    by_cases q : p < j
    · rw [if_pos q, if_pos (by omega)]
    · rw [if_neg q, if_neg (by omega)]
theorem uptoL_0 (T U : Nat → Int64) : uptoL T U 0 = T := by
  funext p
  unfold uptoL
  rw [if_neg (by omega)]
theorem MO.sJ (M : MO A m h) (a : Nat) (T : Nat → Int64) : MO A m (s_J h a T) := M
theorem h_j_sJ' (h : hS) (a : Nat) (T : Nat → Int64) (b : Nat) : h_j (s_J h a T) b = if b = a then T else h_j h b := rfl
theorem image61 (N : Nat) (M : MO A m h) : ∀ (q j fuel : Nat), j + q = 8 → f_M_image_61 N (q + (fuel + 1)) (s_J h (A 56) (uptoL (h_j h (A 56)) (h_j h (A 45)) j)) m (iI j) = (cl (f_M_copyTo N (s_J h (A 56) (uptoL (h_j h (A 56)) (h_j h (A 45)) 8)) (A 55) (A 3)) fun _ h6 => some ((), h6)) := by
  have m56 : (56, 51, 8) ∈ mrows := by decide
  have m45 : (45, 51, 8) ∈ mrows := by decide
  have m55 : (55, 50, 3) ∈ mrows := by decide
  have m3 : (3, 50, 3) ∈ mrows := by decide
  have n : A 45 ≠ A 56 := M.nn m45 m56 (by decide)
  have r56 := M.2.1 (56, 51, 8) (by decide)
  have r45 := M.2.1 (45, 51, 8) (by decide)
  intro q
  induction q with
  | zero =>
    intro j fuel hj
    have e : j = 8 := by omega
    subst e
    rw [Nat.zero_add]
    unfold f_M_image_61
    rw [if_pos (show (8 : Int32) ≤ iI ((8 : Nat) : Int) by decide), gR_at (M.sJ _ _) m55, gR_at (M.sJ _ _) m3]
    rfl
  | succ q ih =>
    intro j fuel hj
    rw [show q + 1 + (fuel + 1) = (q + (fuel + 1)) + 1 by omega]
    unfold f_M_image_61
    rw [if_neg (show ¬ (8 : Int32) ≤ iI (j : Int) from fun z => absurd ((iI_le (a := 8) (by omega) (by omega)).mp z) (by omega)), gR_at (M.sJ _ _) m56, gR_at (M.sJ _ _) m45, aJ_i (h := s_J h (A 56) _) (n := 8) ⟨r45.2.1, r45.2.2⟩ (by omega) (by omega), h_j_sJ', if_neg n, uJ_i (h := s_J h (A 56) _) (n := 8) ⟨r56.2.1, r56.2.2⟩ (by omega) (by omega), s_j_sJ, uptoL_u, bn_i, show iI (j : Int) + (1 : Int32) = iI ((j + 1 : Nat) : Int) by rw [show (1 : Int32) = iI 1 from rfl, iI_add]; rfl]
    exact ih (j + 1) fuel (by omega)
theorem restore65 (N : Nat) (M : MO A m h) : ∀ (q j fuel : Nat), j + q = 8 → f_M_restore_65 N (q + (fuel + 1)) (s_J h (A 45) (uptoL (h_j h (A 45)) (h_j h (A 56)) j)) m (iI j) = (cl (f_M_copyTo N (s_J h (A 45) (uptoL (h_j h (A 45)) (h_j h (A 56)) 8)) (A 3) (A 55)) fun _ h6 => bz (1 : Int32) (some ((1 : Int32), h6))) := by
  have m56 : (56, 51, 8) ∈ mrows := by decide
  have m45 : (45, 51, 8) ∈ mrows := by decide
  have m55 : (55, 50, 3) ∈ mrows := by decide
  have m3 : (3, 50, 3) ∈ mrows := by decide
  have n : A 56 ≠ A 45 := M.nn m56 m45 (by decide)
  have r56 := M.2.1 (56, 51, 8) (by decide)
  have r45 := M.2.1 (45, 51, 8) (by decide)
  intro q
  induction q with
  | zero =>
    intro j fuel hj
    have e : j = 8 := by omega
    subst e
    rw [Nat.zero_add]
    unfold f_M_restore_65
    rw [if_pos (show (8 : Int32) ≤ iI ((8 : Nat) : Int) by decide), gR_at (M.sJ _ _) m3, gR_at (M.sJ _ _) m55]
    rfl
  | succ q ih =>
    intro j fuel hj
    rw [show q + 1 + (fuel + 1) = (q + (fuel + 1)) + 1 by omega]
    unfold f_M_restore_65
    rw [if_neg (show ¬ (8 : Int32) ≤ iI (j : Int) from fun z => absurd ((iI_le (a := 8) (by omega) (by omega)).mp z) (by omega)), gR_at (M.sJ _ _) m45, gR_at (M.sJ _ _) m56, aJ_i (h := s_J h (A 45) _) (n := 8) ⟨r56.2.1, r56.2.2⟩ (by omega) (by omega), h_j_sJ', if_neg n, uJ_i (h := s_J h (A 45) _) (n := 8) ⟨r45.2.1, r45.2.2⟩ (by omega) (by omega), s_j_sJ, uptoL_u, bn_i, show iI (j : Int) + (1 : Int32) = iI ((j + 1 : Nat) : Int) by rw [show (1 : Int32) = iI 1 from rfl, iI_add]; rfl]
    exact ih (j + 1) fuel (by omega)
end
