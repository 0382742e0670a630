/-! THE REFERENCE: image, restore -/
section
variable {ρ : Nat → Nat} {A : Nat → Nat} {m : Nat} {h g u : hS} {F F' : FT}
theorem chM.J (a : chM A m h g) {i : Nat} (hi : ∃ e ∈ mrows, e.1 = i) (T : Nat → Int64) : chM A m h (s_J g (A i) T) := a.trans ⟨⟨rfl, rfl, rfl, rfl, rfl⟩, fun q _ h2 => ⟨rfl, by obtain ⟨e, he, rfl⟩ := hi; rw [h_j_sJ', if_neg (h2 e he)]⟩⟩
theorem cp_is (N : Nat) (M : MO A m h) {i j n : Nat} (hi : (i, 50, n) ∈ mrows) (hj : (j, 50, n) ∈ mrows) (hij : i ≠ j) (hN : n < N) (hn : n < 2 ^ 31) : f_M_copyTo N h (A i) (A j) = some ((), s_w h (A i) (upto (h_i h (A i)) (h_i h (A j)) n)) := copyTo_is N hN (M.ro hi) (M.ro hj) (M.nn hi hj hij) hn
theorem image_M (N : Nat) (hN : 30000 ≤ N) (X : RM ρ A m h F) : RX ρ A m h () (F.1, some F.1, F.2.2) 0 (f_M_image N h m) := by
  obtain ⟨X1, c1⟩ := X.code 0
  have M := X.1.1
  obtain ⟨rt, v⟩ := X1.2.2.2.2.1
  have m52 : (52, 50, 644) ∈ mrows := by decide
  have m2 : (2, 50, 644) ∈ mrows := by decide
  have m53 : (53, 50, 25760) ∈ mrows := by decide
  have m42 : (42, 50, 25760) ∈ mrows := by decide
  have m54 : (54, 50, 8) ∈ mrows := by decide
  have m44 : (44, 50, 8) ∈ mrows := by decide
  have m55 : (55, 50, 3) ∈ mrows := by decide
  have m3 : (3, 50, 3) ∈ mrows := by decide
  have m56 : (56, 51, 8) ∈ mrows := by decide
  have m45 : (45, 51, 8) ∈ mrows := by decide
  obtain ⟨h1, hh1⟩ : ∃ h1, h1 = s_i h m 1 0 := ⟨_, rfl⟩
  rw [← hh1] at X1 c1 rt
  have M1 := X1.1.1
  -- fields
  obtain ⟨h2, hh2⟩ : ∃ h2, h2 = s_i (s_i (s_i h1 m 49 1) m 50 (h_i h1 m 41)) m 51 (h_i h1 m 43) := ⟨_, rfl⟩
  have M2 : MO A m h2 := by rw [hh2]; exact M1
  have c2 : chM A m h1 h2 := by rw [hh2]; exact ((chM.rf.f _ _).f _ _).f _ _
  have i2 : ∀ q, q ≠ m → h_i h2 q = h_i h1 q := fun q hq => by rw [hh2, h_i_si, if_neg hq, h_i_si, if_neg hq, h_i_si, if_neg hq]
  have f2 : ∀ j, j ≠ 49 → j ≠ 50 → j ≠ 51 → h_i h2 m j = h_i h1 m j := fun j q1 q2 q3 => by rw [hh2, h_i_si, if_pos rfl, upd_o q3, h_i_si, if_pos rfl, upd_o q2, h_i_si, if_pos rfl, upd_o q1]
  have f49 : h_i h2 m 49 = 1 := by rw [hh2, h_i_si, if_pos rfl, upd_o (by decide), h_i_si, if_pos rfl, upd_o (by decide), h_i_si, if_pos rfl, upd_a]
  have f50 : h_i h2 m 50 = h_i h1 m 41 := by rw [hh2, h_i_si, if_pos rfl, upd_o (by decide), h_i_si, if_pos rfl, upd_a]
  have f51 : h_i h2 m 51 = h_i h1 m 43 := by rw [hh2, h_i_si, if_pos rfl, upd_a]
  have j2 : h_j h2 = h_j h1 := by rw [hh2]; rfl
  -- rows
  have p1 := cp_is N M2 m52 m2 (by decide) (by omega) (by omega)
  obtain ⟨h3, hh3⟩ : ∃ h3, h3 = s_w h2 (A 52) (upto (h_i h2 (A 52)) (h_i h2 (A 2)) 644) := ⟨_, rfl⟩
  rw [← hh3] at p1
  have M3 : MO A m h3 := by rw [hh3]; exact M2
  have p2 := cp_is N M3 m53 m42 (by decide) (by omega) (by omega)
  obtain ⟨h4, hh4⟩ : ∃ h4, h4 = s_w h3 (A 53) (upto (h_i h3 (A 53)) (h_i h3 (A 42)) 25760) := ⟨_, rfl⟩
  rw [← hh4] at p2
  have M4 : MO A m h4 := by rw [hh4]; exact M3
  have p3 := cp_is N M4 m54 m44 (by decide) (by omega) (by omega)
  obtain ⟨h5, hh5⟩ : ∃ h5, h5 = s_w h4 (A 54) (upto (h_i h4 (A 54)) (h_i h4 (A 44)) 8) := ⟨_, rfl⟩
  rw [← hh5] at p3
  have M5 : MO A m h5 := by rw [hh5]; exact M4
  have lp := image61 N M5 8 0 (N - 9) (by omega)
  rw [uptoL_0, s_J_self, show 8 + (N - 9 + 1) = N by omega] at lp
  obtain ⟨h6, hh6⟩ : ∃ h6, h6 = s_J h5 (A 56) (uptoL (h_j h5 (A 56)) (h_j h5 (A 45)) 8) := ⟨_, rfl⟩
  rw [← hh6] at lp
  have M6 : MO A m h6 := by rw [hh6]; exact M5
  have p4 := cp_is N M6 m55 m3 (by decide) (by omega) (by omega)
  obtain ⟨g, hg⟩ : ∃ g, g = s_w h6 (A 55) (upto (h_i h6 (A 55)) (h_i h6 (A 3)) 3) := ⟨_, rfl⟩
  rw [← hg] at p4
  have c6 : chM A m h1 g := by
    rw [hg, hh6, hh5, hh4, hh3]
    exact ((((c2.w (m_na 52 m52) _).w (m_na 53 m53) _).w (m_na 54 m54) _).J (m_na 56 m56) _).w (m_na 55 m55) _
  have ho := (X1.ch c6).2.2.2.1
  have jg : h_j g = h_j h6 := by rw [hg]; rfl
  have j5 : h_j h5 = h_j h1 := by rw [hh5, hh4, hh3]; exact j2
  have i6 : h_i h6 = h_i h5 := by rw [hh6]; rfl
  have ig : ∀ q, q ≠ A 55 → q ≠ A 54 → q ≠ A 53 → q ≠ A 52 → h_i g q = h_i h2 q := fun q q1 q2 q3 q4 => by rw [hg, h_i_sw, if_neg q1, i6, hh5, h_i_sw, if_neg q2, hh4, h_i_sw, if_neg q3, hh3, h_i_sw, if_neg q4]
  have im : ∀ j, h_i g m j = h_i h2 m j := fun j => by rw [ig m (Ne.symm (M.ne m55 (by decide))) (Ne.symm (M.ne m54 (by decide))) (Ne.symm (M.ne m53 (by decide))) (Ne.symm (M.ne m52 (by decide)))]
  have ia : ∀ i k n', (i, k, n') ∈ mrows → k ≠ 1 → i ≠ 55 → i ≠ 54 → i ≠ 53 → i ≠ 52 → h_i g (A i) = h_i h1 (A i) := fun i k n' hi hk q1 q2 q3 q4 => by rw [ig _ (M.nn hi m55 q1) (M.nn hi m54 q2) (M.nn hi m53 q3) (M.nn hi m52 q4), i2 _ (M.ne hi hk)]
  have i52 : ∀ j, j < 644 → h_i g (A 52) j = h_i h1 (A 2) j := fun j hj => by rw [hg, h_i_sw, if_neg (M.nn m52 m55 (by decide)), i6, hh5, h_i_sw, if_neg (M.nn m52 m54 (by decide)), hh4, h_i_sw, if_neg (M.nn m52 m53 (by decide)), hh3, h_i_sw, if_pos rfl]; unfold upto; rw [if_pos hj, i2 _ (M.ne m2 (by decide))]
  have i53 : ∀ j, j < 25760 → h_i g (A 53) j = h_i h1 (A 42) j := fun j hj => by rw [hg, h_i_sw, if_neg (M.nn m53 m55 (by decide)), i6, hh5, h_i_sw, if_neg (M.nn m53 m54 (by decide)), hh4, h_i_sw, if_pos rfl]; unfold upto; rw [if_pos hj, hh3, h_i_sw, if_neg (M.nn m42 m52 (by decide)), i2 _ (M.ne m42 (by decide))]
  have i54 : ∀ j, j < 8 → h_i g (A 54) j = h_i h1 (A 44) j := fun j hj => by rw [hg, h_i_sw, if_neg (M.nn m54 m55 (by decide)), i6, hh5, h_i_sw, if_pos rfl]; unfold upto; rw [if_pos hj, hh4, h_i_sw, if_neg (M.nn m44 m53 (by decide)), hh3, h_i_sw, if_neg (M.nn m44 m52 (by decide)), i2 _ (M.ne m44 (by decide))]
  have i55 : ∀ j, j < 3 → h_i g (A 55) j = h_i h1 (A 3) j := fun j hj => by rw [hg, h_i_sw, if_pos rfl]; unfold upto; rw [if_pos hj, i6, hh5, h_i_sw, if_neg (M.nn m3 m54 (by decide)), hh4, h_i_sw, if_neg (M.nn m3 m53 (by decide)), hh3, h_i_sw, if_neg (M.nn m3 m52 (by decide)), i2 _ (M.ne m3 (by decide))]
  have j56 : ∀ j, j < 8 → h_j g (A 56) j = h_j h1 (A 45) j := fun j hj => by rw [jg, hh6, h_j_sJ', if_pos rfl]; unfold uptoL; rw [if_pos hj, j5]
  have j45 : h_j g (A 45) = h_j h1 (A 45) := by rw [jg, hh6, h_j_sJ', if_neg (M.nn m45 m56 (by decide)), j5]
  have X2 : RM ρ A m g (F.1, some F.1, F.2.2) := X1.put c6 ⟨by rw [im, f2 13 (by decide) (by decide) (by decide)], by rw [im, f2 14 (by decide) (by decide) (by decide)]⟩ ⟨rt.cg (ia 2 50 644 (by decide) (by decide) (by decide) (by decide) (by decide) (by decide)) (ia 42 50 25760 (by decide) (by decide) (by decide) (by decide) (by decide) (by decide)) (ia 44 50 8 (by decide) (by decide) (by decide) (by decide) (by decide) (by decide)) j45 (ia 3 50 3 (by decide) (by decide) (by decide) (by decide) (by decide) (by decide)) (by rw [im, f2 41 (by decide) (by decide) (by decide)]) (by rw [im, f2 43 (by decide) (by decide) (by decide)]) ho, v⟩ ⟨by rw [im, f49], rt.cp i52 i53 i54 j56 i55 (by rw [im, f50]) (by rw [im, f51]) ho, v⟩ (by rw [im, f2 20 (by decide) (by decide) (by decide), ia 17 50 600 (by decide) (by decide) (by decide) (by decide) (by decide) (by decide)]; exact X1.2.2.2.2.2.2.1) (by rw [im, f2 29 (by decide) (by decide) (by decide)]; exact X1.2.2.2.2.2.2.2)
  refine X.x (c1.trans c6) X2 ?_ (by rw [im, f2 1 (by decide) (by decide) (by decide), hh1]; exact code_a h m 0)
  have Ma : MO A m (s_i h1 m 49 1) := M1
  have Mb : MO A m (s_i (s_i h1 m 49 1) m 50 (h_i h1 m 41)) := M1
  unfold f_M_image
  rw [pI_at M, ← hh1, pZ_at M1 (Or.inr rfl), gI_at Ma, show h_i (s_i h1 m 49 1) m 41 = h_i h1 m 41 by rw [h_i_si, if_pos rfl, upd_o (by decide)], pI_at Ma, gI_at Mb, show h_i (s_i (s_i h1 m 49 1) m 50 (h_i h1 m 41)) m 43 = h_i h1 m 43 by rw [h_i_si, if_pos rfl, upd_o (by decide), h_i_si, if_pos rfl, upd_o (by decide)], pI_at Mb, ← hh2, gR_at M2 m52, gR_at M2 m2]
  simp only [nn]
  rw [p1, cl_s, gR_at M3 m53, gR_at M3 m42]
  simp only [nn]
  rw [p2, cl_s, gR_at M4 m54, gR_at M4 m44]
  simp only [nn]
  rw [p3, cl_s]
  refine (show f_M_image_61 N N h5 m (0 : Int32) = _ from lp).trans ?_
  rw [p4, cl_s]
theorem restore_M_n (N : Nat) (X : RM ρ A m h F) (h0 : F.2.1 = none) : RX ρ A m h (0 : Int32) F 0 (f_M_restore N h m) := by
  obtain ⟨X1, c1⟩ := X.code 0
  have ri := X1.ri
  rw [h0] at ri
  refine X.x c1 X1 ?_ (code_a h m 0)
  unfold f_M_restore
  rw [pI_at X.1.1, gI_at X1.1.1, ri.1, if_pos rfl, bz_0]
theorem restore_M_y (N : Nat) (hN : 30000 ≤ N) (X : RM ρ A m h F) {S : StT} (h0 : F.2.1 = some S) : RX ρ A m h (1 : Int32) (S, F.2) 0 (f_M_restore N h m) := by
  obtain ⟨X1, c1⟩ := X.code 0
  have M := X.1.1
  have ri := X1.ri
  rw [h0] at ri
  obtain ⟨r49, rt, v⟩ := ri
  have m52 : (52, 50, 644) ∈ mrows := by decide
  have m2 : (2, 50, 644) ∈ mrows := by decide
  have m53 : (53, 50, 25760) ∈ mrows := by decide
  have m42 : (42, 50, 25760) ∈ mrows := by decide
  have m54 : (54, 50, 8) ∈ mrows := by decide
  have m44 : (44, 50, 8) ∈ mrows := by decide
  have m55 : (55, 50, 3) ∈ mrows := by decide
  have m3 : (3, 50, 3) ∈ mrows := by decide
  have m56 : (56, 51, 8) ∈ mrows := by decide
  have m45 : (45, 51, 8) ∈ mrows := by decide
  obtain ⟨h1, hh1⟩ : ∃ h1, h1 = s_i h m 1 0 := ⟨_, rfl⟩
  rw [← hh1] at X1 c1 rt r49
  have M1 := X1.1.1
  obtain ⟨h2, hh2⟩ : ∃ h2, h2 = s_i (s_i h1 m 41 (h_i h1 m 50)) m 43 (h_i h1 m 51) := ⟨_, rfl⟩
  have M2 : MO A m h2 := by rw [hh2]; exact M1
  have c2 : chM A m h1 h2 := by rw [hh2]; exact (chM.rf.f _ _).f _ _
  have i2 : ∀ q, q ≠ m → h_i h2 q = h_i h1 q := fun q hq => by rw [hh2, h_i_si, if_neg hq, h_i_si, if_neg hq]
  have f2 : ∀ j, j ≠ 41 → j ≠ 43 → h_i h2 m j = h_i h1 m j := fun j q1 q2 => by rw [hh2, h_i_si, if_pos rfl, upd_o q2, h_i_si, if_pos rfl, upd_o q1]
  have f41 : h_i h2 m 41 = h_i h1 m 50 := by rw [hh2, h_i_si, if_pos rfl, upd_o (by decide), h_i_si, if_pos rfl, upd_a]
  have f43 : h_i h2 m 43 = h_i h1 m 51 := by rw [hh2, h_i_si, if_pos rfl, upd_a]
  have j2 : h_j h2 = h_j h1 := by rw [hh2]; rfl
  have p1 := cp_is N M2 m2 m52 (by decide) (by omega) (by omega)
  obtain ⟨h3, hh3⟩ : ∃ h3, h3 = s_w h2 (A 2) (upto (h_i h2 (A 2)) (h_i h2 (A 52)) 644) := ⟨_, rfl⟩
  rw [← hh3] at p1
  have M3 : MO A m h3 := by rw [hh3]; exact M2
  have p2 := cp_is N M3 m42 m53 (by decide) (by omega) (by omega)
  obtain ⟨h4, hh4⟩ : ∃ h4, h4 = s_w h3 (A 42) (upto (h_i h3 (A 42)) (h_i h3 (A 53)) 25760) := ⟨_, rfl⟩
  rw [← hh4] at p2
  have M4 : MO A m h4 := by rw [hh4]; exact M3
  have p3 := cp_is N M4 m44 m54 (by decide) (by omega) (by omega)
  obtain ⟨h5, hh5⟩ : ∃ h5, h5 = s_w h4 (A 44) (upto (h_i h4 (A 44)) (h_i h4 (A 54)) 8) := ⟨_, rfl⟩
  rw [← hh5] at p3
  have M5 : MO A m h5 := by rw [hh5]; exact M4
  have lp := restore65 N M5 8 0 (N - 9) (by omega)
  rw [uptoL_0, s_J_self, show 8 + (N - 9 + 1) = N by omega] at lp
  obtain ⟨h6, hh6⟩ : ∃ h6, h6 = s_J h5 (A 45) (uptoL (h_j h5 (A 45)) (h_j h5 (A 56)) 8) := ⟨_, rfl⟩
  rw [← hh6] at lp
  have M6 : MO A m h6 := by rw [hh6]; exact M5
  have p4 := cp_is N M6 m3 m55 (by decide) (by omega) (by omega)
  obtain ⟨g, hg⟩ : ∃ g, g = s_w h6 (A 3) (upto (h_i h6 (A 3)) (h_i h6 (A 55)) 3) := ⟨_, rfl⟩
  rw [← hg] at p4
  have c6 : chM A m h1 g := by
    rw [hg, hh6, hh5, hh4, hh3]
    exact ((((c2.w (m_na 2 m2) _).w (m_na 42 m42) _).w (m_na 44 m44) _).J (m_na 45 m45) _).w (m_na 3 m3) _
  have ho := (X1.ch c6).2.2.2.1
  have jg : h_j g = h_j h6 := by rw [hg]; rfl
  have j5 : h_j h5 = h_j h1 := by rw [hh5, hh4, hh3]; exact j2
  have i6 : h_i h6 = h_i h5 := by rw [hh6]; rfl
  have ig : ∀ q, q ≠ A 3 → q ≠ A 44 → q ≠ A 42 → q ≠ A 2 → h_i g q = h_i h2 q := fun q q1 q2 q3 q4 => by rw [hg, h_i_sw, if_neg q1, i6, hh5, h_i_sw, if_neg q2, hh4, h_i_sw, if_neg q3, hh3, h_i_sw, if_neg q4]
  have im : ∀ j, h_i g m j = h_i h2 m j := fun j => by rw [ig m (Ne.symm (M.ne m3 (by decide))) (Ne.symm (M.ne m44 (by decide))) (Ne.symm (M.ne m42 (by decide))) (Ne.symm (M.ne m2 (by decide)))]
  have ia : ∀ i k n', (i, k, n') ∈ mrows → k ≠ 1 → i ≠ 3 → i ≠ 44 → i ≠ 42 → i ≠ 2 → h_i g (A i) = h_i h1 (A i) := fun i k n' hi hk q1 q2 q3 q4 => by rw [ig _ (M.nn hi m3 q1) (M.nn hi m44 q2) (M.nn hi m42 q3) (M.nn hi m2 q4), i2 _ (M.ne hi hk)]
  have i52 : ∀ j, j < 644 → h_i g (A 2) j = h_i h1 (A 52) j := fun j hj => by rw [hg, h_i_sw, if_neg (M.nn m2 m3 (by decide)), i6, hh5, h_i_sw, if_neg (M.nn m2 m44 (by decide)), hh4, h_i_sw, if_neg (M.nn m2 m42 (by decide)), hh3, h_i_sw, if_pos rfl]; unfold upto; rw [if_pos hj, i2 _ (M.ne m52 (by decide))]
  have i53 : ∀ j, j < 25760 → h_i g (A 42) j = h_i h1 (A 53) j := fun j hj => by rw [hg, h_i_sw, if_neg (M.nn m42 m3 (by decide)), i6, hh5, h_i_sw, if_neg (M.nn m42 m44 (by decide)), hh4, h_i_sw, if_pos rfl]; unfold upto; rw [if_pos hj, hh3, h_i_sw, if_neg (M.nn m53 m2 (by decide)), i2 _ (M.ne m53 (by decide))]
  have i54 : ∀ j, j < 8 → h_i g (A 44) j = h_i h1 (A 54) j := fun j hj => by rw [hg, h_i_sw, if_neg (M.nn m44 m3 (by decide)), i6, hh5, h_i_sw, if_pos rfl]; unfold upto; rw [if_pos hj, hh4, h_i_sw, if_neg (M.nn m54 m42 (by decide)), hh3, h_i_sw, if_neg (M.nn m54 m2 (by decide)), i2 _ (M.ne m54 (by decide))]
  have i55 : ∀ j, j < 3 → h_i g (A 3) j = h_i h1 (A 55) j := fun j hj => by rw [hg, h_i_sw, if_pos rfl]; unfold upto; rw [if_pos hj, i6, hh5, h_i_sw, if_neg (M.nn m55 m44 (by decide)), hh4, h_i_sw, if_neg (M.nn m55 m42 (by decide)), hh3, h_i_sw, if_neg (M.nn m55 m2 (by decide)), i2 _ (M.ne m55 (by decide))]
  have j56 : ∀ j, j < 8 → h_j g (A 45) j = h_j h1 (A 56) j := fun j hj => by rw [jg, hh6, h_j_sJ', if_pos rfl]; unfold uptoL; rw [if_pos hj, j5]
  have j45 : h_j g (A 56) = h_j h1 (A 56) := by rw [jg, hh6, h_j_sJ', if_neg (M.nn m56 m45 (by decide)), j5]
  have ri2 : RI A m g (some S) := ⟨by rw [im, f2 49 (by decide) (by decide)]; exact r49, rt.cg (ia 52 50 644 (by decide) (by decide) (by decide) (by decide) (by decide) (by decide)) (ia 53 50 25760 (by decide) (by decide) (by decide) (by decide) (by decide) (by decide)) (ia 54 50 8 (by decide) (by decide) (by decide) (by decide) (by decide) (by decide)) j45 (ia 55 50 3 (by decide) (by decide) (by decide) (by decide) (by decide) (by decide)) (by rw [im, f2 50 (by decide) (by decide)]) (by rw [im, f2 51 (by decide) (by decide)]) ho, v⟩
  have X2 : RM ρ A m g (S, F.2) := X1.put c6 ⟨by rw [im, f2 13 (by decide) (by decide)], by rw [im, f2 14 (by decide) (by decide)]⟩ ⟨rt.cp i52 i53 i54 j56 i55 (by rw [im, f41]) (by rw [im, f43]) ho, v⟩ (by show RI A m g F.2.1; rw [h0]; exact ri2) (by rw [im, f2 20 (by decide) (by decide), ia 17 50 600 (by decide) (by decide) (by decide) (by decide) (by decide) (by decide)]; exact X1.2.2.2.2.2.2.1) (by rw [im, f2 29 (by decide) (by decide)]; exact X1.2.2.2.2.2.2.2)
  refine X.x (c1.trans c6) X2 ?_ (by rw [im, f2 1 (by decide) (by decide), hh1]; exact code_a h m 0)
  have Ma : MO A m (s_i h1 m 41 (h_i h1 m 50)) := M1
  unfold f_M_restore
  rw [pI_at M, ← hh1, gI_at M1, r49, if_neg (by decide), gI_at M1, pI_at M1, gI_at Ma, show h_i (s_i h1 m 41 (h_i h1 m 50)) m 51 = h_i h1 m 51 by rw [h_i_si, if_pos rfl, upd_o (by decide)], pI_at Ma, ← hh2, gR_at M2 m2, gR_at M2 m52]
  simp only [nn]
  rw [p1, cl_s, gR_at M3 m42, gR_at M3 m53]
  simp only [nn]
  rw [p2, cl_s, gR_at M4 m44, gR_at M4 m54]
  simp only [nn]
  rw [p3, cl_s]
  refine (show f_M_restore_65 N N h5 m (0 : Int32) = _ from lp).trans ?_
  rw [p4, cl_s, bz_1]
end
