/-! THE CLASS'S READER: a text read -/
section
variable {ρ : Nat → Nat} {h : hS} {Q : Nat → Nat} {tp n : Nat} {B : Nat → Int} {F : Nat → Int32}
theorem clE_fail (N : Nat) (X : RDQ ρ h Q tp B n) {k a : Nat} (h4 : F 4 = iI k) (h11 : F 11 = iI a) {v : Int} (hv : v ≠ 0) {en : Nat} {c : Nat × Int × Int × Int} {r : Option (Unit × hS)} (hr : r = some ((), s_w h (Q 3) (upd (upd F 5 (iI v)) 6 (F 11)))) : clE ρ h Q tp B n F k v a en c r := by
  refine ⟨h, _, hr, tr.rf, X, fun _ _ => ⟨rfl, rfl, rfl, rfl⟩, rfl, rfl, rfl, ⟨?_, ?_⟩, ?_, fun _ => ⟨?_, ?_⟩, fun z => absurd z hv⟩
  · rw [upd_o (by decide), upd_o (by decide)]
  · rw [upd_o (by decide), upd_o (by decide)]
  · rw [upd_o (by decide), upd_a]
  · rw [upd_a]; exact h11
  · rw [upd_o (by decide), upd_o (by decide)]; exact h4
/-- a clause: its token t is read -/
theorem clause_is (N : Nat) (hN : 1000 ≤ N) (X : RDQ ρ h Q tp B n) (C : CN ρ h) {k : Nat} (hk : k ≤ 40) {t : Int × Nat × Nat} (ht : (t.2.1 ≤ t.2.2 ∧ t.2.2 ≤ n) ∧ (0 ≤ t.1 ∧ t.1 ≤ 4)) (h8 : F 8 = iI n) (h4 : F 4 = iI k) (h10 : F 10 = iI t.1) (h11 : F 11 = iI t.2.1) (h12 : F 12 = iI t.2.2) (h5 : F 5 = 0) {cost : Int} (hc : 0 ≤ cost ∧ cost ≤ 3) (h9 : F 9 = iI cost) : clE ρ h Q tp B n F k (if zKd B t = -1 then 1 else if 40 ≤ k then 3 else zCf B n (zKd B t) cost t.2.2) (if zKd B t = -1 then t.2.1 else if 40 ≤ k then t.2.1 else zCp B n (zKd B t) cost t.2.2) (zCe B n (zKd B t) t.2.2) (t.2.1, zKd B t, zFw B n (zKd B t) t.2.2, zSw B n (zKd B t) (zFe B n (zKd B t) t.2.2)) (f_Reader_readClause N (s_w h (Q 3) F) (Q 3)) := by
  have D := X.1
  have lb := X.2.2.2.1
  have hn := D.le
  have e16 : f_Reader_readClause N (s_w h (Q 3) F) (Q 3) = f_Reader_readClause_16 N (s_w h (Q 3) F) (Q 3) (iI (zKd B t)) := by
    unfold f_Reader_readClause
    rw [gW D, h10]
    unfold zKd
    by_cases q : t.1 = 1
    · rw [if_pos (show iI t.1 = (1 : Int32) by rw [q]; rfl), if_pos q, vW D, kindTok_is N hN D (C.sw lb.2.2.2.2) h8 ht.1.1 ht.1.2 h11 h12, cl_s]
    · rw [if_neg (show ¬ iI t.1 = (1 : Int32) from fun z => q ((iI_eq (b := 1) (by omega) (by omega)).mp z)), if_neg q]
      rfl
  rw [e16]
  by_cases q : zKd B t = -1
  · rw [if_pos q, if_pos q]
    refine clE_fail N X h4 h11 (by decide) ?_
    unfold f_Reader_readClause_16
    rw [if_pos (show iI (zKd B t) = (-1 : Int32) by rw [q]; decide), vW D, failR_is N D, cl_s]
    rfl
  · have hkd : 0 ≤ zKd B t ∧ zKd B t ≤ 8 := by rcases zKd_rng B t with z | z <;> omega
    rw [if_neg q, if_neg q]
    by_cases q2 : 40 ≤ k
    · rw [if_pos q2, if_pos q2]
      refine clE_fail N X h4 h11 (by decide) ?_
      unfold f_Reader_readClause_16
      rw [if_neg (show ¬ iI (zKd B t) = (-1 : Int32) from fun z => q ((iI_eq (b := -1) (by omega) (by omega)).mp z)), gW D, h4, if_neg (show ¬ iI (k : Int) < (40 : Int32) from fun z => absurd ((iI_lt (b := 40) (by omega) (by omega)).mp z) (by omega)), vW D, failR_is N D, cl_s]
      rfl
    · rw [if_neg q2, if_neg q2]
      exact cl16 N hN X C (by omega) ht.1.2 h8 h4 h11 h12 h5 hc h9 hkd
theorem zCf_rng (B : Nat → Int) (n : Nat) (kd cost : Int) (e : Nat) : 0 ≤ zCf B n kd cost e ∧ zCf B n kd cost e ≤ 3 := by
  have h1 := zFf_rng B n kd cost e
  have h2 := zSf_rng B n kd (zFe B n kd e)
  unfold zCf
  repeat' split
  all_goals omega
theorem zRd_rng (B : Nat → Int) (n : Nat) (cost : Int) : ∀ m e k, 0 ≤ (zRd B n cost m e k).2.1 ∧ (zRd B n cost m e k).2.1 ≤ 3 := by
  intro m
  induction m with
  | zero => intro e k; rw [zRd]; simp only []; omega
  | succ m ih =>
    intro e k
    have h1 := zCf_rng B n (zKd B (zTok B n e)) cost (zTok B n e).2.2
    rw [zRd]
    split
    · simp only []; omega
    · split
      · simp only []; omega
      · split
        · simp only []; omega
        · split
          · exact ih _ _
          · exact h1
theorem read_stop (N : Nat) (D : RD h (Q 3) tp B n) {k fuel : Nat} (hk : k ≤ 41) {f : Int} (hf : 1 ≤ f ∧ f ≤ 100) (h5 : F 5 = iI f) : f_Reader_read_43 N (fuel + 1) (s_w h (Q 3) F) (Q 3) (iI k) = some ((), s_w h (Q 3) F) := by
  unfold f_Reader_read_43 f_Reader_read_79
  by_cases q : 40 < k
  · rw [if_pos (show (40 : Int32) < iI (k : Int) from (iI_lt (a := 40) (by omega) (by omega)).mpr (by omega))]
  · rw [if_neg (show ¬ (40 : Int32) < iI (k : Int) from fun z => absurd ((iI_lt (a := 40) (by omega) (by omega)).mp z) (by omega)), gW D, h5, if_neg (show ¬ iI f = (0 : Int32) from fun z => by have := (iI_eq (b := 0) (by omega) (by omega)).mp z; omega)]
theorem read_loop (N : Nat) (hN : 1000 ≤ N) {cost : Int} (hc : 0 ≤ cost ∧ cost ≤ 3) : ∀ (m k e : Nat) (h : hS) (F : Nat → Int32) (fuel : Nat), k + m = 41 → RDQ ρ h Q tp B n → CN ρ h → e ≤ n → F 8 = iI n → F 4 = iI k → F 12 = iI e → F 5 = 0 → F 9 = iI cost → ∃ h' F', f_Reader_read_43 N (m + (fuel + 1)) (s_w h (Q 3) F) (Q 3) (iI k) = some ((), s_w h' (Q 3) F') ∧ tr ρ h (rg 18) ρ h' ∧ RDQ ρ h' Q tp B n ∧ sm4 h h' Q k ∧ hm h' = hm h ∧ h_r h' = h_r h ∧ F' 5 = iI (zRd B n cost m e k).2.1 ∧ ((zRd B n cost m e k).2.1 ≠ 0 → F' 6 = iI (zRd B n cost m e k).2.2) ∧ F' 4 = iI ((k + (zRd B n cost m e k).1.length : Nat) : Int) ∧ ∀ i, (hi : i < (zRd B n cost m e k).1.length) → RW4 h' Q (k + i) (zRd B n cost m e k).1[i] := by
  intro m
  induction m with
  | zero =>
    intro k e h F fuel hk X C he h8 h4 h12 h5 h9
    rw [Nat.zero_add]
    refine ⟨h, F, ?_, tr.rf, X, fun _ _ => ⟨rfl, rfl, rfl, rfl⟩, rfl, rfl, by rw [zRd, h5]; rfl, fun z => absurd rfl z, by rw [zRd, h4]; rfl, fun i hi => by simp [zRd] at hi⟩
    unfold f_Reader_read_43 f_Reader_read_79
    rw [if_pos (show (40 : Int32) < iI (k : Int) from (iI_lt (a := 40) (by omega) (by omega)).mpr (by omega))]
  | succ m ih =>
    intro k e h F fuel hk X C he h8 h4 h12 h5 h9
    have D := X.1
    have h1 := zTok_rng (B := B) he
    have o : ∀ j, j ≠ 10 → j ≠ 11 → j ≠ 12 → tokF F (zTok B n e) j = F j := fun j a b c => tokF_o a b c
    have st : f_Reader_read_43 N ((m + (fuel + 1)) + 1) (s_w h (Q 3) F) (Q 3) (iI k) = if iI (zTok B n e).1 = (0 : Int32) then some ((), s_w h (Q 3) (tokF F (zTok B n e))) else (cl (f_Reader_readClause N (s_w h (Q 3) (tokF F (zTok B n e))) (Q 3)) fun _ h6 => f_Reader_read_43 N (m + (fuel + 1)) h6 (Q 3) (iI ((k + 1 : Nat) : Int))) := by
      have e1 : iI (k : Int) + (1 : Int32) = iI ((k + 1 : Nat) : Int) := by rw [show (1 : Int32) = iI 1 from rfl, iI_add]; rfl
      conv => lhs; unfold f_Reader_read_43
      rw [if_neg (show ¬ (40 : Int32) < iI (k : Int) from fun z => absurd ((iI_lt (a := 40) (by omega) (by omega)).mp z) (by omega)), gW D, h5, if_pos rfl, vW D, next_is N hN D he h8 h12, cl_s, gW D, (tokF_at _).1, vW D]
      simp only [bn_i, e1]
    rw [show m + 1 + (fuel + 1) = (m + (fuel + 1)) + 1 by omega, st]
    have cl := clause_is N hN X C (F := tokF F (zTok B n e)) (k := k) (by omega) (t := zTok B n e) ⟨h1.1.2, h1.2.1⟩ ((o 8 (by decide) (by decide) (by decide)).trans h8) ((o 4 (by decide) (by decide) (by decide)).trans h4) (tokF_at _).1 (tokF_at _).2.1 (tokF_at _).2.2 ((o 5 (by decide) (by decide) (by decide)).trans h5) hc ((o 9 (by decide) (by decide) (by decide)).trans h9)
    by_cases q0 : (zTok B n e).1 = 0
    · have ez : zRd B n cost (m + 1) e k = ([], 0, 0) := by rw [zRd, if_pos q0]
      rw [ez, if_pos (show iI (zTok B n e).1 = (0 : Int32) by rw [q0]; rfl)]
      exact ⟨h, _, rfl, tr.rf, X, fun _ _ => ⟨rfl, rfl, rfl, rfl⟩, rfl, rfl, by rw [o 5 (by decide) (by decide) (by decide), h5]; rfl, fun z => absurd rfl z, by rw [o 4 (by decide) (by decide) (by decide), h4]; rfl, fun i hi => absurd hi (Nat.not_lt_zero _)⟩
    rw [if_neg (show ¬ iI (zTok B n e).1 = (0 : Int32) from fun z => q0 ((iI_eq (b := 0) (by omega) (by omega)).mp z))]
    obtain ⟨h', F', b1, b2, b3, b4, b5, b6, _, b8, b9, b10, b11⟩ := cl
    rw [b1, cl_s]
    -- a fault ends it
    have bad : ∀ (f : Int) (p : Nat), (1 ≤ f ∧ f ≤ 100) → F' 5 = iI f → F' 6 = iI p → F' 4 = iI k → zRd B n cost (m + 1) e k = ([], f, p) → ∃ h'' F'', f_Reader_read_43 N (m + (fuel + 1)) (s_w h' (Q 3) F') (Q 3) (iI ((k + 1 : Nat) : Int)) = some ((), s_w h'' (Q 3) F'') ∧ tr ρ h (rg 18) ρ h'' ∧ RDQ ρ h'' Q tp B n ∧ sm4 h h'' Q k ∧ hm h'' = hm h ∧ h_r h'' = h_r h ∧ F'' 5 = iI (zRd B n cost (m + 1) e k).2.1 ∧ ((zRd B n cost (m + 1) e k).2.1 ≠ 0 → F'' 6 = iI (zRd B n cost (m + 1) e k).2.2) ∧ F'' 4 = iI ((k + (zRd B n cost (m + 1) e k).1.length : Nat) : Int) ∧ ∀ i, (hi : i < (zRd B n cost (m + 1) e k).1.length) → RW4 h'' Q (k + i) (zRd B n cost (m + 1) e k).1[i] := fun f p hf f5 f6 f4 ez => by
      rw [ez]
      exact ⟨h', F', read_stop N b3.1 (k := k + 1) (fuel := m + fuel) (by omega) hf f5, b2, b3, b4, b5, b6, f5, fun _ => f6, f4, fun i hi => absurd hi (Nat.not_lt_zero _)⟩
    by_cases q1 : zKd B (zTok B n e) = -1
    · rw [if_pos q1] at b9 b10
      obtain ⟨c1, c2⟩ := b10 (by decide)
      rw [if_pos q1] at c1
      exact bad 1 _ (by omega) b9 c1 c2 (by rw [zRd, if_neg q0, if_pos q1])
    rw [if_neg q1] at b9 b10 b11
    by_cases q2 : 40 ≤ k
    · rw [if_pos q2] at b9 b10
      obtain ⟨c1, c2⟩ := b10 (by decide)
      rw [if_neg q1, if_pos q2] at c1
      exact bad 3 _ (by omega) b9 c1 c2 (by rw [zRd, if_neg q0, if_neg q1, if_pos q2])
    rw [if_neg q2] at b9 b10 b11
    have hz := zCf_rng B n (zKd B (zTok B n e)) cost (zTok B n e).2.2
    by_cases q3 : zCf B n (zKd B (zTok B n e)) cost (zTok B n e).2.2 = 0
    · obtain ⟨c1, c2, c3⟩ := b11 q3
      have he2 := zCe_rng (B := B) (zKd B (zTok B n e)) h1.1.2.2
      obtain ⟨h'', F'', d1, d2, d3, d4, d5, d6, d7, d8, d9, d10⟩ := ih (k + 1) (zCe B n (zKd B (zTok B n e)) (zTok B n e).2.2) h' F' fuel (by omega) b3 (C.keep b2 (fun z => by have : (30 : Nat) = 18 := z; omega)) he2.2 (by rw [b8.1, o 8 (by decide) (by decide) (by decide)]; exact h8) c1 c2 (by rw [b9, q3]; rfl) (by rw [b8.2, o 9 (by decide) (by decide) (by decide)]; exact h9)
      have ez : zRd B n cost (m + 1) e k = (((zTok B n e).2.1, zKd B (zTok B n e), zFw B n (zKd B (zTok B n e)) (zTok B n e).2.2, zSw B n (zKd B (zTok B n e)) (zFe B n (zKd B (zTok B n e)) (zTok B n e).2.2)) :: (zRd B n cost m (zCe B n (zKd B (zTok B n e)) (zTok B n e).2.2) (k + 1)).1, (zRd B n cost m (zCe B n (zKd B (zTok B n e)) (zTok B n e).2.2) (k + 1)).2) := by
        conv => lhs; rw [zRd]
        rw [if_neg q0, if_neg q1, if_neg q2, if_pos q3]
      rw [ez]
      generalize zRd B n cost m (zCe B n (zKd B (zTok B n e)) (zTok B n e).2.2) (k + 1) = Z at *
      refine ⟨h'', F'', d1, b2.trans d2, d3, fun i hi => ?_, d5.trans b5, d6.trans b6, d7, d8, ?_, fun i hi => ?_⟩
      · obtain ⟨x1, x2, x3, x4⟩ := d4 i (by omega)
        obtain ⟨y1, y2, y3, y4⟩ := b4 i hi
        exact ⟨x1.trans y1, x2.trans y2, x3.trans y3, x4.trans y4⟩
      · rw [d9]; congr 1; simp only [List.length_cons]; omega
      · cases i with
        | zero =>
          obtain ⟨x1, x2, x3, x4⟩ := d4 k (by omega)
          obtain ⟨y1, y2, y3, y4⟩ := c3
          exact ⟨x4.trans y1, x1.trans y2, x2.trans y3, x3.trans y4⟩
        | succ i =>
          have := d10 i (by simp only [List.length_cons] at hi; omega)
          rw [show k + 1 + i = k + (i + 1) by omega] at this
          exact this
    · obtain ⟨c1, c2⟩ := b10 q3
      rw [if_neg q1, if_neg q2] at c1
      exact bad _ _ (by omega) b9 c1 c2 (by rw [zRd, if_neg q0, if_neg q1, if_neg q2, if_neg q3])
end
