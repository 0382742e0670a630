/-! THE REFERENCE: fits, look -/
noncomputable def fitB (S : StT) (i w : Nat) : Bool := @decide (zFit S i w) (Classical.propDecidable _)
theorem fitB_iff (S : StT) (i w : Nat) : fitB S i w = true ↔ zFit S i w := by
  unfold fitB
  exact @decide_eq_true_iff _ (Classical.propDecidable _)
section
variable {ρ : Nat → Nat} {A : Nat → Nat} {m : Nat} {h g u : hS} {F F' : FT} {a b : Nat} {Z : Nat → Int}
theorem uZ_w {β : Type} {a j n : Nat} {v : Int32} {f : hS → Option β} (hk : h_k h a = 53) (hl : h_n h a = n) (hj : j < n) (hn : n < 2 ^ 31) (hv : v = 0 ∨ v = 1) : uZ h (some a) (iI j) v f = f (s_i h a j v) := by
  have h1 : inb (iI j) (h_n h a) := by rw [hl, ← nI_iI]; exact nI_in hj (by omega)
  show (if h_k h a = 53 ∧ inb (iI j) (h_n h a) then f (s_i h a (iI j).toNatClampNeg (vp_nar .boolean v)) else none) = _
  rw [if_pos ⟨hk, h1⟩, ← nI_iI, nI_clamp (by omega)]
  rcases hv with e | e <;> subst e <;> rfl
theorem aZ_w {β : Type} {a j n : Nat} {f : Int32 → Option β} (hk : h_k h a = 53) (hl : h_n h a = n) (hj : j < n) (hn : n < 2 ^ 31) : aI h 53 (some a) (iI j) f = f (h_i h a j) := by
  have h1 : inb (iI j) (h_n h a) := by rw [hl, ← nI_iI]; exact nI_in hj (by omega)
  show (if h_k h a = 53 ∧ inb (iI j) (h_n h a) then f (h_i h a (iI j).toNatClampNeg) else none) = _
  rw [if_pos ⟨hk, h1⟩, ← nI_iI, nI_clamp (by omega)]
theorem idx41 {w j : Nat} : ((41 : Int32) * iI w + iI ((j : Int) - 20)) + (20 : Int32) = iI ((41 * w + j : Nat) : Int) := by
  rw [show (41 : Int32) = iI 41 from rfl, show (20 : Int32) = iI 20 from rfl, iI_mul, iI_add, iI_add]
  congr 1
  omega
theorem t19 (N : Nat) (hN : 30000 ≤ N) (rc : hS → Nat → Int32 → Int32 → Option (Unit × hS)) (X : RM ρ A m h F) (t : tEq (zi (h_i h (A 4))) Z) (x1 x2 : Int32) : ∀ (q k fuel : Nat), k + q = F.1.2.2.2.1 → (∀ j, j < k → lI (zVal Z (F.1.2.2.2.2.1 j)) = F.1.2.2.2.2.2.1 j) → ∃ v, f_M_tellFits_19 N rc (q + (fuel + 1)) h m x1 x2 (1 : Int32) (iI k) = f_M_tellFits_69 N rc h m x1 x2 v ∧ ((v = 1 ∧ zHold F.1 Z) ∨ (v = 0 ∧ ¬ zHold F.1 Z)) := by
  have m4 : (4, 50, 10003) ∈ mrows := by decide
  have m44 : (44, 50, 8) ∈ mrows := by decide
  have m45 : (45, 51, 8) ∈ mrows := by decide
  have M := X.1.1
  obtain ⟨rt, vs⟩ := X.2.2.2.2.1
  have e43 := rt.2.1.2.2.1
  have n8 := rt.2.1.2.2.2
  intro q
  induction q with
  | zero =>
    intro k fuel hk hold
    refine ⟨1, ?_, Or.inl ⟨rfl, fun j hj => hold j (by omega)⟩⟩
    rw [Nat.zero_add]
    unfold f_M_tellFits_19
    rw [gI_at M, e43, if_pos ((iI_le (by omega) (by omega)).mpr (by omega))]
  | succ q ih =>
    intro k fuel hk hold
    have hx := vs.2.2.2.2 k (by omega)
    have nk := rt.2.2.2.2.1 k (by omega)
    have va := valueAt_is N (by omega) (M.ro m4) (x := F.1.2.2.2.2.1 k) (by omega) (by omega)
    rw [zVal_congr t] at va
    have e1 : iI (k : Int) + (1 : Int32) = iI ((k + 1 : Nat) : Int) := by rw [show (1 : Int32) = iI 1 from rfl, iI_add]; rfl
    have st : f_M_tellFits_19 N rc ((q + (fuel + 1)) + 1) h m x1 x2 (1 : Int32) (iI k) = if lI (zVal Z (F.1.2.2.2.2.1 k)) = F.1.2.2.2.2.2.1 k then f_M_tellFits_19 N rc (q + (fuel + 1)) h m x1 x2 (1 : Int32) (iI ((k + 1 : Nat) : Int)) else f_M_tellFits_19 N rc (q + (fuel + 1)) h m x1 x2 (0 : Int32) (iI ((k + 1 : Nat) : Int)) := by
      conv => lhs; unfold f_M_tellFits_19
      unfold f_M_tellFits_62
      rw [gI_at M, e43, if_neg (fun z => by have := (iI_le (by omega) (by omega)).mp z; omega), if_neg (by decide), gR_at M m4, gR_at M m44, aI_iI (n := 8) (z := (k : Int)) (M.ro m44) (by omega) (by omega) (by omega), Int.toNat_natCast, nk.1, nn_s, va, cl_s, gR_at M m45, aJ_i (n := 8) (M.rl m45) (by omega) (by omega), nk.2, bn_i, e1, bn_i]
      by_cases z : lI (zVal Z (F.1.2.2.2.2.1 k)) = F.1.2.2.2.2.2.1 k
      · rw [if_pos ((lg_eq0 _ _).mpr z), if_pos z]
      · rw [if_neg (fun y => z ((lg_eq0 _ _).mp y)), if_neg z]
    rw [show q + 1 + (fuel + 1) = (q + (fuel + 1)) + 1 by omega, st]
    by_cases z : lI (zVal Z (F.1.2.2.2.2.1 k)) = F.1.2.2.2.2.2.1 k
    · rw [if_pos z]
      exact ih (k + 1) fuel (by omega) (fun j hj => by
        by_cases e : j = k
        · rw [e]; exact z
        · exact hold j (by omega))
    · rw [if_neg z]
      refine ⟨0, ?_, Or.inr ⟨rfl, fun y => z (y k (by omega))⟩⟩
      rw [show q + (fuel + 1) = (q + fuel) + 1 by omega]
      unfold f_M_tellFits_19
      rw [gI_at M, e43]
      by_cases y : iI F.1.2.2.2.1 ≤ iI ((k + 1 : Nat) : Int)
      · rw [if_pos y]
      · rw [if_neg y, if_pos rfl]
theorem t19_0 (N : Nat) (hN : 30000 ≤ N) (rc : hS → Nat → Int32 → Int32 → Option (Unit × hS)) (M : MO A m h) (x1 x2 y : Int32) : f_M_tellFits_19 N rc N h m x1 x2 (0 : Int32) y = f_M_tellFits_69 N rc h m x1 x2 0 := by
  obtain ⟨n, e⟩ : ∃ n, N = n + 1 := ⟨N - 1, by omega⟩
  rw [show f_M_tellFits_19 N rc N h m x1 x2 (0 : Int32) y = f_M_tellFits_19 N rc (n + 1) h m x1 x2 (0 : Int32) y by rw [← e]]
  unfold f_M_tellFits_19
  rw [gI_at M]
  by_cases z : h_i h m 43 ≤ y
  · rw [if_pos z]
  · rw [if_neg z, if_pos rfl]
theorem t80 (N : Nat) (hN : 30000 ≤ N) (rc : hS → Nat → Int32 → Int32 → Option (Unit × hS)) (M : MO A m h) (t : tEq (zi (h_i h (A 4))) Z) (x1 : Int32) {w : Nat} (hw : w ≤ 40) : ∀ (q j fuel : Nat) (T : Nat → Int64), j + q = 41 → (∀ y, y < j → T (41 * w + y) = lI (zVal Z ((y : Int) - 20))) → ∃ T', f_M_tellFits_80 N rc (q + (fuel + 1)) (s_v h (A 47) T) m x1 (iI w) (1 : Int32) (iI ((j : Int) - 20)) = rc (s_v h (A 47) T') m x1 (iI ((w + 1 : Nat) : Int)) ∧ (∀ y, y < 41 → T' (41 * w + y) = lI (zVal Z ((y : Int) - 20))) ∧ ∀ y, y < 41 * w → T' y = T y := by
  have m4 : (4, 50, 10003) ∈ mrows := by decide
  have m47 : (47, 51, 1681) ∈ mrows := by decide
  have e1 : iI (w : Int) + (1 : Int32) = iI ((w + 1 : Nat) : Int) := by rw [show (1 : Int32) = iI 1 from rfl, iI_add]; rfl
  intro q
  induction q with
  | zero =>
    intro j fuel T hj ht
    have e : j = 41 := by omega
    subst e
    refine ⟨T, ?_, ht, fun _ _ => rfl⟩
    rw [Nat.zero_add]
    unfold f_M_tellFits_80 f_M_tellFits_121
    rw [if_pos (show (20 : Int32) < iI (((41 : Nat) : Int) - 20) by decide), bn_i, e1]
  | succ q ih =>
    intro j fuel T hj ht
    have va := valueAt_is N (by omega) (h := s_v h (A 47) T) (M.ro m4) (x := (j : Int) - 20) (by omega) (by omega)
    rw [show h_i (s_v h (A 47) T) (A 4) = h_i h (A 4) from rfl, zVal_congr t] at va
    obtain ⟨T', t1, t2, t3⟩ := ih (j + 1) fuel (vp_updL T (41 * w + j) (lI (zVal Z ((j : Int) - 20)))) (by omega) (fun y hy => by
      unfold vp_updL
      by_cases e : y = j
      · rw [e, if_pos rfl]
      · rw [if_neg (by omega)]; exact ht y (by omega))
    refine ⟨T', ?_, t2, fun y hy => by rw [t3 y hy]; unfold vp_updL; rw [if_neg (by omega)]⟩
    rw [show q + 1 + (fuel + 1) = (q + (fuel + 1)) + 1 by omega]
    conv => lhs; unfold f_M_tellFits_80
    rw [if_neg (show ¬ (20 : Int32) < iI ((j : Int) - 20) from fun z => by have := (iI_lt (a := 20) (by omega) (by omega)).mp z; omega), if_neg (by decide), gR_at (h := s_v h (A 47) T) M m47, gR_at (h := s_v h (A 47) T) M m4, nn_s, va, cl_s, idx41, uJ_i (h := s_v h (A 47) T) (n := 1681) (M.rl m47) (by omega) (by omega), s_v_j, bn_i, show iI ((j : Int) - 20) + (1 : Int32) = iI (((j + 1 : Nat) : Int) - 20) by rw [show (1 : Int32) = iI 1 from rfl, iI_add]; congr 1; omega]
    exact t1
/-- the weights below w are tried -/
def FTS (A : Nat → Nat) (h : hS) (S : StT) (i w : Nat) : Prop := ∀ o, o < w → h_i h (A 46) o = (if fitB S i o = true then 1 else 0) ∧ (fitB S i o = true → ∀ j, j < 41 → h_j h (A 47) (41 * o + j) = lI (zVw S i j o))
theorem t69 (N : Nat) (hN : 30000 ≤ N) (rc : hS → Nat → Int32 → Int32 → Option (Unit × hS)) (X : RM ρ A m h F) {i w : Nat} (hw : w ≤ 40) (x1 : Int32) (FS : FTS A h F.1 i w) {v : Int32} (hv : (v = 1 ∧ fitB F.1 i w = true ∧ tEq (zi (h_i h (A 4))) (zT (pW (F.1.1 0).2.1 i w) (F.1.1 0).2.2 (-1) (F.1.1 0).1)) ∨ (v = 0 ∧ fitB F.1 i w = false)) : ∃ g, f_M_tellFits_69 N rc h m x1 (iI w) v = rc g m x1 (iI ((w + 1 : Nat) : Int)) ∧ frM A m h g ∧ h_i g m 1 = h_i h m 1 ∧ FTS A g F.1 i (w + 1) := by
  have m4 : (4, 50, 10003) ∈ mrows := by decide
  have m46 : (46, 53, 41) ∈ mrows := by decide
  have M := X.1.1
  have k46 := (M.2.1 _ m46).2
  have n46 : A 46 ≠ m := M.ne m46 (by decide)
  have n464 : A 4 ≠ A 46 := M.nn m4 m46 (by decide)
  have e1 : iI (w : Int) + (1 : Int32) = iI ((w + 1 : Nat) : Int) := by rw [show (1 : Int32) = iI 1 from rfl, iI_add]; rfl
  obtain ⟨h2, hh2⟩ : ∃ h2, h2 = s_i h (A 46) w v := ⟨_, rfl⟩
  have fr2 : frM A m h h2 := by rw [hh2]; exact frM.row (by decide) n46 v
  have M2 : MO A m h2 := by rw [hh2]; exact M
  have c2 : h_i h2 m 1 = h_i h m 1 := by rw [hh2, h_i_si, if_neg (Ne.symm n46)]
  have j2 : h_j h2 = h_j h := by rw [hh2]; rfl
  have i2 : ∀ o, h_i h2 (A 46) o = if o = w then v else h_i h (A 46) o := fun o => by
    rw [hh2, h_i_si, if_pos rfl]
    by_cases e : o = w
    · rw [if_pos e, e, upd_a]
    · rw [if_neg e, upd_o e]
  have st : f_M_tellFits_69 N rc h m x1 (iI w) v = f_M_tellFits_80 N rc N h2 m x1 (iI w) v (-20 : Int32) := by
    unfold f_M_tellFits_69
    rw [gR_at M m46, uZ_w (n := 41) k46.1 k46.2 (by omega) (by omega) (by rcases hv with z | z; exact Or.inr z.1; exact Or.inl z.1), ← hh2]
  rcases hv with ⟨v1, f1, t⟩ | ⟨v0, f0⟩
  · have t2 : tEq (zi (h_i h2 (A 4))) (zT (pW (F.1.1 0).2.1 i w) (F.1.1 0).2.2 (-1) (F.1.1 0).1) := by
      rw [hh2, h_i_si, if_neg n464]; exact t
    obtain ⟨T, a1, a2, a3⟩ := t80 N hN rc M2 t2 x1 hw 41 0 (N - 42) (h_j h2 (A 47)) (by omega) (fun y hy => absurd hy (Nat.not_lt_zero _))
    rw [show 41 + (N - 42 + 1) = N by omega, s_v_self, show iI (((0 : Nat) : Int) - 20) = (-20 : Int32) by decide] at a1
    refine ⟨s_v h2 (A 47) T, by rw [st, v1]; exact a1, fr2.trans (frM.v (by decide) T), c2, fun o ho => ⟨?_, fun fo j hj => ?_⟩⟩
    · show h_i h2 (A 46) o = _
      rw [i2]
      by_cases e : o = w
      · rw [if_pos e, e, if_pos f1, v1]
      · rw [if_neg e]; exact (FS o (by omega)).1
    · rw [h_j_sv, if_pos rfl]
      by_cases e : o = w
      · rw [e, a2 j hj]; rfl
      · have : 41 * o + j < 41 * w := by omega
        rw [a3 _ this, j2]
        exact (FS o (by omega)).2 fo j hj
  · refine ⟨h2, ?_, fr2, c2, fun o ho => ⟨?_, fun fo j hj => ?_⟩⟩
    · obtain ⟨n, e⟩ : ∃ n, N = n + 1 := ⟨N - 1, by omega⟩
      rw [st, v0]
      rw [show f_M_tellFits_80 N rc N h2 m x1 (iI w) 0 (-20 : Int32) = f_M_tellFits_80 N rc (n + 1) h2 m x1 (iI w) 0 (-20 : Int32) by rw [← e]]
      unfold f_M_tellFits_80 f_M_tellFits_121
      rw [if_neg (by decide), if_pos rfl, bn_i, e1]
    · rw [i2]
      by_cases e : o = w
      · rw [if_pos e, e, if_neg (by rw [f0]; decide), v0]
      · rw [if_neg e]; exact (FS o (by omega)).1
    · by_cases e : o = w
      · rw [e, f0] at fo; cases fo
      · rw [j2]; exact (FS o (by omega)).2 fo j hj
theorem t2_is (N : Nat) (hN : 30000 ≤ N) {i : Nat} (hi : i < (F.1.1 0).1) (hkd : ((F.1.1 0).2.1 i).1 ≤ 2) : ∀ (q w fuel : Nat) (h : hS), w + q = 41 → RM ρ A m h F → FTS A h F.1 i w → ∃ g, f_M_tellFits_2 N (q + (fuel + 1)) h m (iI i) (iI w) = some ((), g) ∧ frM A m h g ∧ h_i g m 1 = h_i h m 1 ∧ FTS A g F.1 i 41 := by
  intro q
  induction q with
  | zero =>
    intro w fuel h hw X FS
    have e : w = 41 := by omega
    subst e
    refine ⟨h, ?_, frM.rf, rfl, FS⟩
    rw [Nat.zero_add]
    unfold f_M_tellFits_2
    rw [if_pos (by decide)]
  | succ q ih =>
    intro w fuel h hw X FS
    have M := X.1.1
    obtain ⟨G', res, r1, r2, r3, r4, r5⟩ := runsWith_S N (by omega) M (h_i h) X.rs.2 (c := 0) (st := i) (by omega) hi hkd (w := (w : Int)) (by omega)
    rw [w_i_self] at r1
    obtain ⟨h2, hh2⟩ : ∃ h2, h2 = w_i h G' := ⟨_, rfl⟩
    have f2 := r2.m
    obtain ⟨X2, _, _⟩ := X.fr f2
    rw [← hh2] at X2 f2 r1
    have c2 : h_i h2 m 1 = h_i h m 1 := by rw [hh2]; exact r3
    have FS2 : FTS A h2 F.1 i w := fun o ho => by
      have a46 : h_i h2 (A 46) = h_i h (A 46) := by
        rw [hh2]
        refine r2.1 _ (fun k hk => ?_) (M.ne (i := 46) (k := 53) (n := 41) (by decide) (by decide))
        have mk : ∃ q ∈ mrows, q.1 = k := by
          have : ∀ j ∈ scr, ∃ q ∈ mrows, q.1 = j := by decide
          exact this k hk
        obtain ⟨k', n', z⟩ := mr_of mk
        refine M.nn (i := 46) (k := 53) (n := 41) (by decide) z (fun e => ?_)
        subst e
        exact absurd hk (by decide)
      have j2 : h_j h2 = h_j h := by rw [hh2]; rfl
      rw [a46, j2]
      exact FS o ho
    have step : ∀ v : Int32, ((v = 1 ∧ fitB F.1 i w = true ∧ tEq (zi (h_i h2 (A 4))) (zT (pW (F.1.1 0).2.1 i w) (F.1.1 0).2.2 (-1) (F.1.1 0).1)) ∨ (v = 0 ∧ fitB F.1 i w = false)) → f_M_tellFits_19 N (f_M_tellFits_2 N (q + (fuel + 1))) N h2 m (iI i) (iI w) res (0 : Int32) = f_M_tellFits_69 N (f_M_tellFits_2 N (q + (fuel + 1))) h2 m (iI i) (iI w) v → ∃ g, f_M_tellFits_2 N ((q + (fuel + 1)) + 1) h m (iI i) (iI w) = some ((), g) ∧ frM A m h g ∧ h_i g m 1 = h_i h m 1 ∧ FTS A g F.1 i 41 := fun v hv e => by
      obtain ⟨g, g1, g2, g3, g4⟩ := t69 N hN (f_M_tellFits_2 N (q + (fuel + 1))) X2 (by omega) (iI i) FS2 hv
      obtain ⟨X3, _, _⟩ := X2.fr g2
      obtain ⟨u, u1, u2, u3, u4⟩ := ih (w + 1) fuel g (by omega) X3 g4
      refine ⟨u, ?_, (f2.trans g2).trans u2, u3.trans (g3.trans c2), u4⟩
      conv => lhs; unfold f_M_tellFits_2
      rw [if_neg (show ¬ (40 : Int32) < iI (w : Int) from fun z => by have := (iI_lt (a := 40) (by omega) (by omega)).mp z; omega), cv_at M, show f_M_runsWith N h m (0 : Int32) (iI i) (iI w) = some (res, h2) from r1, cl_s, e, g1]
      exact u1
    rw [show q + 1 + (fuel + 1) = (q + (fuel + 1)) + 1 by omega]
    by_cases al : zGoes F.1.1 0 i (w : Int)
    · obtain ⟨v1, t, iv⟩ := r4 al
      have t' : tEq (zi (h_i h2 (A 4))) (zT (pW (F.1.1 0).2.1 i w) (F.1.1 0).2.2 (-1) (F.1.1 0).1) := by rw [hh2]; exact t
      have n8 := X2.2.2.2.2.1.1.2.1.2.2.2
      obtain ⟨v, e19, hv⟩ := t19 N hN (f_M_tellFits_2 N (q + (fuel + 1))) X2 t' (iI i) (iI w) F.1.2.2.2.1 0 (N - F.1.2.2.2.1 - 1) (by omega) (fun j hj => absurd hj (Nat.not_lt_zero _))
      rw [show F.1.2.2.2.1 + (N - F.1.2.2.2.1 - 1 + 1) = N by omega] at e19
      refine step v ?_ (by rw [v1]; exact e19)
      rcases hv with ⟨a, b⟩ | ⟨a, b⟩
      · exact Or.inl ⟨a, (fitB_iff _ _ _).mpr ⟨al, b⟩, t'⟩
      · refine Or.inr ⟨a, ?_⟩
        cases hf : fitB F.1 i w
        · rfl
        · exact absurd ((fitB_iff _ _ _).mp hf).2 b
    · have v0 := r5 al
      refine step 0 (Or.inr ⟨rfl, ?_⟩) (by rw [v0]; exact t19_0 N hN _ X2.1.1 _ _ _)
      cases hf : fitB F.1 i w
      · rfl
      · exact absurd ((fitB_iff _ _ _).mp hf).1 al
theorem tellFits_is (N : Nat) (hN : 30000 ≤ N) (X : RM ρ A m h F) {i : Nat} (hi : i < (F.1.1 0).1) (hkd : ((F.1.1 0).2.1 i).1 ≤ 2) : ∃ g, f_M_tellFits N h m (iI i) = some ((), g) ∧ frM A m h g ∧ h_i g m 1 = h_i h m 1 ∧ FTS A g F.1 i 41 := by
  obtain ⟨g, g1, g2⟩ := t2_is N hN hi hkd 41 0 (N - 42) h (by omega) X (fun o ho => absurd ho (Nat.not_lt_zero _))
  rw [show 41 + (N - 42 + 1) = N by omega] at g1
  exact ⟨g, g1, g2⟩
theorem fits44 (N : Nat) (M : MO A m h) {S : StT} {i : Nat} (FS : FTS A h S i 41) {b : Int} (hb : 0 ≤ b ∧ b ≤ 1) : ∀ (q fuel : Nat), q ≤ 41 → f_M_fits_44 N (q + (fuel + 1)) h m (iI b) (iI (fC (fitB S i) (41 - q) q).1) (iI (fC (fitB S i) (41 - q) q).2) (iI ((q : Int) - 1)) = some (if b = 0 then iI (fC (fitB S i) 41 0).1 else iI (fC (fitB S i) 41 0).2, h) := by
  have m46 : (46, 53, 41) ∈ mrows := by decide
  have k46 := (M.2.1 _ m46).2
  intro q
  induction q with
  | zero =>
    intro fuel _
    rw [Nat.zero_add]
    unfold f_M_fits_44 f_M_fits_85
    rw [if_pos (show iI (((0 : Nat) : Int) - 1) < (0 : Int32) by decide)]
    by_cases e : b = 0
    · rw [if_pos (show iI b = (0 : Int32) by rw [e]; rfl), if_pos e]
    · rw [if_neg (show ¬ iI b = (0 : Int32) from fun z => e ((iI_eq (b := 0) (by omega) (by omega)).mp z)), if_neg e]
  | succ q ih =>
    intro fuel hq
    have i1 := ih fuel (by omega)
    have fc : fC (fitB S i) (41 - q) q = if fitB S i q then ((fC (fitB S i) (41 - (q + 1)) (q + 1)).1 + 1, (q : Int)) else fC (fitB S i) (41 - (q + 1)) (q + 1) := by
      rw [show 41 - q = (41 - (q + 1)) + 1 by omega, fC]
    rw [fc] at i1
    have eq1 : iI (((q + 1 : Nat) : Int) - 1) = iI (q : Int) := by congr 1; omega
    have em : iI (q : Int) + (-1 : Int32) = iI ((q : Int) - 1) := by rw [show (-1 : Int32) = iI (-1) by decide, iI_add]; congr 1
    rw [show q + 1 + (fuel + 1) = (q + (fuel + 1)) + 1 by omega, eq1]
    conv => lhs; unfold f_M_fits_44
    unfold f_M_fits_69
    rw [if_neg (show ¬ iI (q : Int) < (0 : Int32) from fun z => by have := (iI_lt (b := 0) (by omega) (by omega)).mp z; omega), gR_at M m46, aZ_w (n := 41) k46.1 k46.2 (by omega) (by omega), (FS q (by omega)).1, bn_i, bn_i, em, bn_i, show iI (fC (fitB S i) (41 - (q + 1)) (q + 1)).1 + (1 : Int32) = iI ((fC (fitB S i) (41 - (q + 1)) (q + 1)).1 + 1) by rw [show (1 : Int32) = iI 1 from rfl, iI_add]]
    cases hf : fitB S i q
    · rw [hf] at i1
      rw [if_pos (show (if false = true then (1 : Int32) else 0) = 0 from rfl)]
      exact i1
    · rw [hf] at i1
      rw [if_neg (show ¬ (if true = true then (1 : Int32) else 0) = 0 by decide)]
      exact i1
theorem fits_M (N : Nat) (hN : 30000 ≤ N) (X : RM ρ A m h F) {i b : Int} (hi : i32 i) (hb : i32 b) : (¬ ((isSt F.1.1 0 i ∧ ((F.1.1 0).2.1 i.toNat).1 ≤ 2) ∧ (0 ≤ b ∧ b ≤ 1)) → RX ρ A m h (0 : Int32) F 1 (f_M_fits N h m (iI i) (iI b))) ∧ ((isSt F.1.1 0 i ∧ ((F.1.1 0).2.1 i.toNat).1 ≤ 2) ∧ (0 ≤ b ∧ b ≤ 1) → RX ρ A m h (if b = 0 then iI (fC (fitB F.1 i.toNat) 41 0).1 else iI (fC (fitB F.1 i.toNat) 41 0).2) F 0 (f_M_fits N h m (iI i) (iI b))) := by
  obtain ⟨X1, c1⟩ := X.code 0
  have M1 := X1.1.1
  have hin := inI N (s_i h m 1 0) hb (lo := 0) (hi := 1) (by omega) (by omega)
  have e24 : f_M_fits_24 N (s_i h m 1 0) m = some (0, s_i (s_i h m 1 0) m 1 1) := by unfold f_M_fits_24; rw [cv_at M1, failM N X1, cl_s]
  have wy : isSt F.1.1 0 i → ((F.1.1 0).2.1 i.toNat).1 ≤ 2 → f_M_isWeighed N (s_i h m 1 0) m (0 : Int32) (iI i) = some (1, s_i h m 1 0) := fun q1 q2 => weighed_y N M1 (h_i (s_i h m 1 0)) X1.rs.2 (c := 0) q1 q2
  have wn : ¬ (isSt F.1.1 0 i ∧ ((F.1.1 0).2.1 i.toNat).1 ≤ 2) → f_M_isWeighed N (s_i h m 1 0) m (0 : Int32) (iI i) = some (0, s_i h m 1 0) := fun q => weighed_n N M1 (h_i (s_i h m 1 0)) X1.rs.2 (c := 0) (by unfold i32; omega) hi q
  constructor
  · intro hn
    refine X.failX ?_
    unfold f_M_fits
    by_cases q : isSt F.1.1 0 i ∧ ((F.1.1 0).2.1 i.toNat).1 ≤ 2
    · have qb : ¬ (0 ≤ b ∧ b ≤ 1) := fun z => hn ⟨q, z⟩
      rw [if_neg qb] at hin
      rw [pI_at X.1.1, cv_at M1, wy q.1 q.2, cl_s, if_neg (by decide), show (0 : Int64) = lI 0 from rfl, show (1 : Int64) = lI 1 from rfl, hin, cl_s, if_pos rfl, e24]
    · rw [pI_at X.1.1, cv_at M1, wn q, cl_s, if_pos rfl, e24]
  · rintro ⟨⟨q1, q2⟩, qb⟩
    rw [if_pos qb] at hin
    have hin' : i.toNat < (F.1.1 0).1 := by have := q1.2; have e : (0 : Int).toNat = 0 := rfl; rw [e] at this; omega
    obtain ⟨g, g1, g2, g3, g4⟩ := tellFits_is N hN X1 hin' q2
    rw [show ((i.toNat : Nat) : Int) = i by have := q1.2; omega] at g1
    have X2 := (X1.fr g2).1
    have lp := fits44 N X2.1.1 g4 qb 41 (N - 42) (by omega)
    rw [show 41 + (N - 42 + 1) = N by omega] at lp
    refine X.x (c1.trans g2.c) X2 ?_ (g3.trans (code_a h m 0))
    unfold f_M_fits
    rw [pI_at X.1.1, cv_at M1, wy q1 q2, cl_s, if_neg (by decide), show (0 : Int64) = lI 0 from rfl, show (1 : Int64) = lI 1 from rfl, hin, cl_s, if_neg (by decide), cv_at M1, g1, cl_s, show (-1 : Int32) = iI (-1) by decide]
    exact lp
/-- the values of a place are like numbers -/
theorem u21 (N : Nat) (M : MO A m h) {S : StT} {i : Nat} (FS : FTS A h S i 41) (rc : hS → Nat → Int32 → Int32 → Int32 → Option (Int32 × hS)) {j : Nat} (hj : j < 41) (hV : ∀ w, w ≤ 40 → fitB S i w = true → 0 ≤ zVw S i j w ∧ zVw S i j w ≤ 220000000) {w : Nat} (hw : w ≤ 40) (n : Int32) : ∀ (q o fuel : Nat), o + q = w → f_M_unlike_21 N rc (q + (fuel + 1)) h m (iI ((j : Int) - 20)) n (iI w) (if nbB (fitB S i) (zVw S i j) w o = true then 1 else 0) (iI o) = f_M_unlike_99 N rc h m (iI ((j : Int) - 20)) (iI w) n (if nbB (fitB S i) (zVw S i j) w w = true then 1 else 0) := by
  have m46 : (46, 53, 41) ∈ mrows := by decide
  have m47 : (47, 51, 1681) ∈ mrows := by decide
  have k46 := (M.2.1 _ m46).2
  have e88 : ∀ B : Bool, f_M_unlike_88 N rc h m (iI ((j : Int) - 20)) n (iI w) (if B = true then 1 else 0) = f_M_unlike_99 N rc h m (iI ((j : Int) - 20)) (iI w) n (if B = true then 1 else 0) := fun B => by
    unfold f_M_unlike_88
    cases B
    · rw [if_pos (show (if false = true then (1 : Int32) else 0) = 0 from rfl)]; rfl
    · rw [if_neg (show ¬ (if true = true then (1 : Int32) else 0) = 0 by decide)]; rfl
  intro q
  induction q with
  | zero =>
    intro o fuel ho
    have e : o = w := by omega
    subst e
    rw [Nat.zero_add]
    unfold f_M_unlike_21
    rw [if_pos ((iI_le (by omega) (by omega)).mpr (Int.le_refl _)), e88]
  | succ q ih =>
    intro o fuel ho
    have i1 := ih (o + 1) fuel (by omega)
    have e1 : iI (o : Int) + (1 : Int32) = iI ((o + 1 : Nat) : Int) := by rw [show (1 : Int32) = iI 1 from rfl, iI_add]; rfl
    rw [show q + 1 + (fuel + 1) = (q + (fuel + 1)) + 1 by omega]
    cases hb : nbB (fitB S i) (zVw S i j) w o
    · have hf := nbB_false hb (w - o)
      rw [show o + (w - o) = w by omega] at hf
      conv => lhs; unfold f_M_unlike_21
      rw [if_neg (fun z => by have := (iI_le (by omega) (by omega)).mp z; omega), if_pos (show (if false = true then (1 : Int32) else 0) = 0 from rfl), e88 false, hf]
    · have fw : fitB S i w = true := ((nbB_iff _ _ _ _).mp hb).1
      have nb1 : nbB (fitB S i) (zVw S i j) w (o + 1) = (!fitB S i o || decide (zVw S i j o ≠ zVw S i j w)) := by rw [nbB, hb, Bool.true_and]
      rw [nb1] at i1
      have cw := (FS w (by omega)).2 fw j hj
      have bw := hV w hw fw
      conv => lhs; unfold f_M_unlike_21
      unfold f_M_unlike_75 f_M_unlike_80
      rw [if_neg (fun z => by have := (iI_le (by omega) (by omega)).mp z; omega), if_neg (show ¬ (if true = true then (1 : Int32) else 0) = 0 by decide), gR_at M m46, aZ_w (n := 41) k46.1 k46.2 (by omega) (by omega), (FS o (by omega)).1, bn_i, e1]
      cases fo : fitB S i o
      · rw [fo] at i1
        rw [if_pos (show (if false = true then (1 : Int32) else 0) = 0 from rfl)]
        exact i1
      · rw [fo] at i1
        have co := (FS o (by omega)).2 fo j hj
        have bo := hV o (by omega) fo
        rw [if_neg (show ¬ (if true = true then (1 : Int32) else 0) = 0 by decide), gR_at M m47, idx41, aJ_i (n := 1681) (M.rl m47) (by omega) (by omega), co, gR_at M m47, idx41, aJ_i (n := 1681) (M.rl m47) (by omega) (by omega), cw, bn_i]
        by_cases e : zVw S i j o = zVw S i j w
        · rw [if_pos ((lg_eq0 _ _).mpr (by rw [e]))]
          have : (!true || decide (zVw S i j o ≠ zVw S i j w)) = false := by rw [decide_eq_false (fun z => z e)]; rfl
          rw [this] at i1
          exact i1
        · rw [if_neg (fun z => e (by
            have z' := (lg_eq0 _ _).mp z
            have y1 := lI_toInt (z := zVw S i j o) (by omega) (by omega)
            have y2 := lI_toInt (z := zVw S i j w) (by omega) (by omega)
            rw [z', y2] at y1
            exact y1.symm))]
          have : (!true || decide (zVw S i j o ≠ zVw S i j w)) = true := by rw [decide_eq_true e]; rfl
          rw [this] at i1
          exact i1
theorem unR_rng (f : Nat → Bool) (V : Nat → Int) : ∀ w, 0 ≤ unR f V w ∧ unR f V w ≤ w := by
  intro w
  induction w with
  | zero => simp [unR]
  | succ w ih => rw [unR]; split <;> omega
theorem u4_is (N : Nat) (hN : 30000 ≤ N) (M : MO A m h) {S : StT} {i : Nat} (FS : FTS A h S i 41) {j : Nat} (hj : j < 41) (hV : ∀ w, w ≤ 40 → fitB S i w = true → 0 ≤ zVw S i j w ∧ zVw S i j w ≤ 220000000) : ∀ (q w fuel : Nat), w + q = 41 → f_M_unlike_4 N (q + (fuel + 1)) h m (iI ((j : Int) - 20)) (iI (unR (fitB S i) (zVw S i j) w)) (iI w) = some (iI (unR (fitB S i) (zVw S i j) 41), h) := by
  have m46 : (46, 53, 41) ∈ mrows := by decide
  have k46 := (M.2.1 _ m46).2
  intro q
  induction q with
  | zero =>
    intro w fuel hw
    have e : w = 41 := by omega
    subst e
    rw [Nat.zero_add]
    unfold f_M_unlike_4
    rw [if_pos (by decide)]
  | succ q ih =>
    intro w fuel hw
    have i1 := ih (w + 1) fuel (by omega)
    have e1 : iI (w : Int) + (1 : Int32) = iI ((w + 1 : Nat) : Int) := by rw [show (1 : Int32) = iI 1 from rfl, iI_add]; rfl
    have lp := u21 N M FS (f_M_unlike_4 N (q + (fuel + 1))) hj hV (w := w) (by omega) (iI (unR (fitB S i) (zVw S i j) w)) w 0 (N - w - 1) (by omega)
    rw [show w + (N - w - 1 + 1) = N by omega] at lp
    have f0 : (if nbB (fitB S i) (zVw S i j) w 0 = true then (1 : Int32) else 0) = (if fitB S i w = true then 1 else 0) := rfl
    rw [f0] at lp
    rw [show q + 1 + (fuel + 1) = (q + (fuel + 1)) + 1 by omega]
    conv => lhs; unfold f_M_unlike_4
    rw [if_neg (show ¬ (40 : Int32) < iI (w : Int) from fun z => by have := (iI_lt (a := 40) (by omega) (by omega)).mp z; omega), gR_at M m46, aZ_w (n := 41) k46.1 k46.2 (by omega) (by omega), (FS w (by omega)).1]
    refine (show f_M_unlike_21 N (f_M_unlike_4 N (q + (fuel + 1))) N h m (iI ((j : Int) - 20)) (iI (unR (fitB S i) (zVw S i j) w)) (iI w) (if fitB S i w = true then 1 else 0) (iI ((0 : Nat) : Int)) = _ from lp).trans ?_
    unfold f_M_unlike_99
    rw [bn_i, bn_i, e1]
    have ee : iI (unR (fitB S i) (zVw S i j) w) + (if nbB (fitB S i) (zVw S i j) w w = true then (1 : Int32) else 0) = iI (unR (fitB S i) (zVw S i j) (w + 1)) := by
      rw [unR]
      by_cases z : nbB (fitB S i) (zVw S i j) w w = true
      · rw [if_pos z, if_pos z, show (1 : Int32) = iI 1 from rfl, iI_add]
      · rw [if_neg z, if_neg z, show (0 : Int32) = iI 0 from rfl, iI_add]
    rw [ee]
    exact i1
/-- place and number behind the places up to n -/
def lkP (U : Nat → Int) (n : Nat) : Int := if U (bst U n) = 0 then -10000000 else (bst U n : Int) - 20
theorem look46 (N : Nat) (M : MO A m h) {U : Nat → Int} (hU : ∀ j, j < 41 → 0 ≤ U j ∧ U j ≤ 1000) (un : ∀ j : Nat, j < 41 → f_M_unlike N h m (iI ((j : Int) - 20)) = some (iI (U j), h)) {b : Int} (hb : b = 0 ∨ b = 1) : ∀ (q j fuel : Nat), j + 1 + q = 41 → f_M_look_46 N (q + (fuel + 1)) h m (iI b) (iI (lkP U j)) (iI (U (bst U j))) (iI (((j + 1 : Nat) : Int) - 20)) = some (iI (if b = 1 then U (bst U 40) else lkP U 40), h) := by
  intro q
  induction q with
  | zero =>
    intro j fuel hj
    have e : j = 40 := by omega
    subst e
    rw [Nat.zero_add]
    unfold f_M_look_46 f_M_look_94
    rw [if_pos (by decide)]
    rcases hb with e | e <;> subst e
    · rw [if_pos (show iI 0 = (0 : Int32) from rfl), if_neg (by decide)]
    · rw [if_neg (show ¬ iI 1 = (0 : Int32) by decide), if_pos rfl]
  | succ q ih =>
    intro j fuel hj
    have i1 := ih (j + 1) fuel (by omega)
    have bl := bst_le U j
    have u1 := hU (bst U j) (by omega)
    have u2 := hU (j + 1) (by omega)
    have e1 : iI (((j + 1 : Nat) : Int) - 20) + (1 : Int32) = iI (((j + 1 + 1 : Nat) : Int) - 20) := by rw [show (1 : Int32) = iI 1 from rfl, iI_add]; congr 1; omega
    rw [show q + 1 + (fuel + 1) = (q + (fuel + 1)) + 1 by omega]
    conv => lhs; unfold f_M_look_46
    unfold f_M_look_78
    rw [if_neg (show ¬ (20 : Int32) < iI (((j + 1 : Nat) : Int) - 20) from fun z => by have := (iI_lt (a := 20) (by omega) (by omega)).mp z; omega), cv_at M, un (j + 1) (by omega), cl_s, bn_i, bn_i, e1]
    unfold lkP at i1 ⊢
    rw [bst] at i1
    by_cases z : U (bst U j) < U (j + 1)
    · rw [if_pos z, if_neg (show ¬ U (j + 1) = 0 by omega)] at i1
      rw [if_pos ((iI_lt (by omega) (by omega)).mpr z)]
      exact i1
    · rw [if_neg z] at i1
      rw [if_neg (fun y => z ((iI_lt (by omega) (by omega)).mp y))]
      exact i1
theorem zVw_inv (X : RM ρ A m h F) {i : Nat} (hkd : ((F.1.1 0).2.1 i).1 ≤ 2) {w : Nat} (hw : w ≤ 40) (hf : fitB F.1 i w = true) : zInv (zT (pW (F.1.1 0).2.1 i w) (F.1.1 0).2.2 (-1) (F.1.1 0).1) := by
  have v := X.2.2.2.2.1.2.1 0 (by omega)
  exact zT_inv (pW_arg (fun j hj => ⟨(v.2.1 j hj).1, fun q => ((v.2.1 j hj).2 q).1⟩) hkd (by omega)) ((fitB_iff _ _ _).mp hf).1 _ (Nat.le_refl _)
theorem zVw_bd (X : RM ρ A m h F) {i : Nat} (hkd : ((F.1.1 0).2.1 i).1 ≤ 2) {j : Nat} (hj : j < 41) : ∀ w, w ≤ 40 → fitB F.1 i w = true → 0 ≤ zVw F.1 i j w ∧ zVw F.1 i j w ≤ 220000000 := fun w hw hf => (zVw_inv X hkd hw hf).val2 (by omega) (by omega)
theorem unl_same (X : RM ρ A m h F) {i : Nat} (hkd : ((F.1.1 0).2.1 i).1 ≤ 2) {j : Nat} : unR (fitB F.1 i) (zVw F.1 i j) 41 = (unS (fitB F.1 i) (zVw F.1 i j) 41).1 := by
  refine ((unR_S (n := 41) (fun o w how hw fo fw => ?_) 41 (Nat.le_refl _)).1).symm
  have v := X.2.2.2.2.1.2.1 0 (by omega)
  exact zT_mono (fun j hj => ⟨(v.2.1 j hj).1, fun q => ((v.2.1 j hj).2 q).1⟩) hkd (w := (o : Int)) (w' := (w : Int)) (by omega) (by omega) (by omega) ((fitB_iff _ _ _).mp fo).1 ((fitB_iff _ _ _).mp fw).1 _ (Nat.le_refl _) _
theorem look_M (N : Nat) (hN : 30000 ≤ N) (X : RM ρ A m h F) {i b : Int} (hi : i32 i) (hb : i32 b) : (¬ ((isSt F.1.1 0 i ∧ ((F.1.1 0).2.1 i.toNat).1 ≤ 2) ∧ (0 ≤ b ∧ b ≤ 1)) → RX ρ A m h (0 : Int32) F 1 (f_M_look N h m (iI i) (iI b))) ∧ ((isSt F.1.1 0 i ∧ ((F.1.1 0).2.1 i.toNat).1 ≤ 2) ∧ (0 ≤ b ∧ b ≤ 1) → (∀ j, j < 41 → ∀ w, w ≤ 40 → fitB F.1 i.toNat w = true → -1000000000 ≤ zVw F.1 i.toNat j w ∧ zVw F.1 i.toNat j w ≤ 1000000000) ∧ RX ρ A m h (iI (if b = 1 then (unS (fitB F.1 i.toNat) (zVw F.1 i.toNat (bst (fun j => (unS (fitB F.1 i.toNat) (zVw F.1 i.toNat j) 41).1) 40)) 41).1 else if (unS (fitB F.1 i.toNat) (zVw F.1 i.toNat (bst (fun j => (unS (fitB F.1 i.toNat) (zVw F.1 i.toNat j) 41).1) 40)) 41).1 = 0 then -10000000 else (bst (fun j => (unS (fitB F.1 i.toNat) (zVw F.1 i.toNat j) 41).1) 40 : Int) - 20)) F 0 (f_M_look N h m (iI i) (iI b))) := by
  obtain ⟨X1, c1⟩ := X.code 0
  have M1 := X1.1.1
  have hin := inI N (s_i h m 1 0) hb (lo := 0) (hi := 1) (by omega) (by omega)
  have e24 : f_M_look_24 N (s_i h m 1 0) m = some (0, s_i (s_i h m 1 0) m 1 1) := by unfold f_M_look_24; rw [cv_at M1, failM N X1, cl_s]
  have wy : isSt F.1.1 0 i → ((F.1.1 0).2.1 i.toNat).1 ≤ 2 → f_M_isWeighed N (s_i h m 1 0) m (0 : Int32) (iI i) = some (1, s_i h m 1 0) := fun q1 q2 => weighed_y N M1 (h_i (s_i h m 1 0)) X1.rs.2 (c := 0) q1 q2
  have wn : ¬ (isSt F.1.1 0 i ∧ ((F.1.1 0).2.1 i.toNat).1 ≤ 2) → f_M_isWeighed N (s_i h m 1 0) m (0 : Int32) (iI i) = some (0, s_i h m 1 0) := fun q => weighed_n N M1 (h_i (s_i h m 1 0)) X1.rs.2 (c := 0) (by unfold i32; omega) hi q
  constructor
  · intro hn
    refine X.failX ?_
    unfold f_M_look
    by_cases q : isSt F.1.1 0 i ∧ ((F.1.1 0).2.1 i.toNat).1 ≤ 2
    · have qb : ¬ (0 ≤ b ∧ b ≤ 1) := fun z => hn ⟨q, z⟩
      rw [if_neg qb] at hin
      rw [pI_at X.1.1, cv_at M1, wy q.1 q.2, cl_s, if_neg (by decide), show (0 : Int64) = lI 0 from rfl, show (1 : Int64) = lI 1 from rfl, hin, cl_s, if_pos rfl, e24]
    · rw [pI_at X.1.1, cv_at M1, wn q, cl_s, if_pos rfl, e24]
  · rintro ⟨⟨q1, q2⟩, qb⟩
    refine ⟨fun j hj w hw hf => by have := zVw_bd X q2 hj w hw hf; omega, ?_⟩
    rw [if_pos qb] at hin
    have hin' : i.toNat < (F.1.1 0).1 := by have := q1.2; have e : (0 : Int).toNat = 0 := rfl; rw [e] at this; omega
    obtain ⟨g, g1, g2, g3, g4⟩ := tellFits_is N hN X1 hin' q2
    rw [show ((i.toNat : Nat) : Int) = i by have := q1.2; omega] at g1
    have X2 := (X1.fr g2).1
    have M2 := X2.1.1
    obtain ⟨U, hU⟩ : ∃ U : Nat → Int, U = fun j => (unS (fitB F.1 i.toNat) (zVw F.1 i.toNat j) 41).1 := ⟨_, rfl⟩
    have Uj : ∀ j, U j = (unS (fitB F.1 i.toNat) (zVw F.1 i.toNat j) 41).1 := fun j => by rw [hU]
    have ur : ∀ j, j < 41 → 0 ≤ U j ∧ U j ≤ 1000 := fun j hj => by
      have := unS_rng (fitB F.1 i.toNat) (zVw F.1 i.toNat j) 41
      rw [Uj]; omega
    have un : ∀ j : Nat, j < 41 → f_M_unlike N g m (iI ((j : Int) - 20)) = some (iI (U j), g) := fun j hj => by
      have lp := u4_is N hN M2 g4 hj (zVw_bd X2 q2 hj) 41 0 (N - 42) (by omega)
      rw [show 41 + (N - 42 + 1) = N by omega, unl_same X2 q2, ← Uj] at lp
      unfold f_M_unlike
      exact lp
    have lp := look46 N M2 ur un (b := b) (by omega) 40 0 (N - 42) (by omega)
    have e0 : f_M_look_46 N N g m (iI b) (-10000000 : Int32) (0 : Int32) (-20 : Int32) = f_M_look_46 N (40 + (N - 42 + 1)) g m (iI b) (iI (lkP U 0)) (iI (U (bst U 0))) (iI (((0 + 1 : Nat) : Int) - 20)) := by
      obtain ⟨n, e⟩ : ∃ n, N = n + 1 := ⟨N - 1, by omega⟩
      rw [show f_M_look_46 N N g m (iI b) (-10000000 : Int32) (0 : Int32) (-20 : Int32) = f_M_look_46 N (n + 1) g m (iI b) (-10000000 : Int32) (0 : Int32) (-20 : Int32) by rw [← e]]
      conv => lhs; unfold f_M_look_46
      unfold f_M_look_78
      have u0 := un 0 (by omega)
      have r0 := ur 0 (by omega)
      rw [show iI (((0 : Nat) : Int) - 20) = (-20 : Int32) by decide] at u0
      rw [if_neg (by decide), cv_at M2, u0, cl_s, bn_i, bn_i, show (-20 : Int32) + 1 = iI (((0 + 1 : Nat) : Int) - 20) by decide, show n = 40 + (N - 42 + 1) by omega]
      unfold lkP
      rw [bst]
      by_cases z : U 0 = 0
      · rw [if_pos z, z, if_neg (show ¬ (0 : Int32) < iI 0 by decide), show (-10000000 : Int32) = iI (-10000000) by decide]
        rfl
      · rw [if_neg z, if_pos (show (0 : Int32) < iI (U 0) from (iI_lt (a := 0) (by omega) (by omega)).mpr (by omega)), show (-20 : Int32) = iI (((0 : Nat) : Int) - 20) by decide]
    rw [← Uj, ← hU]
    refine X.x (c1.trans g2.c) X2 ?_ (g3.trans (code_a h m 0))
    unfold f_M_look
    rw [pI_at X.1.1, cv_at M1, wy q1 q2, cl_s, if_neg (by decide), show (0 : Int64) = lI 0 from rfl, show (1 : Int64) = lI 1 from rfl, hin, cl_s, if_neg (by decide), cv_at M1, g1, cl_s, e0]
    exact lp
end
