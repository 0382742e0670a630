section
variable {P O : Nat → Nat} {lt lo : Nat} {S T : StT} {lab lob : Nat → Nat}
/-- a long of the state is written -/
theorem SY.wj {ρ : Nat → Nat} {h : hS} (X : SY ρ h P lt S lab) (hls : 100 ≤ lt) (k : Nat) (v : Int64) : SY ρ (s_j h (P 36) k v) P lt (S.1, S.2.1, S.2.2.1, S.2.2.2.1, S.2.2.2.2.1, (fun j => if j = k then v else S.2.2.2.2.2.1 j), S.2.2.2.2.2.2) lab := by
  have f36 := X.f36
  have t : tr ρ h (rg lt) ρ (s_j h (P 36) k v) := tr_sj f36.2.1
  have n9 : ¬ rg lt 9 := fun z => by have : 9 = lt := z; omega
  have l2 := X.2.2.2.1.2.1
  refine ⟨⟨X.1.1.keep t, fun e he => X.1.2.1 e he, X.1.2.2⟩, X.2.1, fun c hc => (X.2.2.1 c hc).keep t n9 (fun z => by have : lt + 1 + c = lt := z; omega), ⟨X.2.2.2.1.1, l2, fun j hj => (X.2.2.2.1.2.2 j hj).keep t rfl n9 (fun z => by have h1 : lab j = lt := z; have := l2 j hj; omega)⟩, X.2.2.2.2.1, fun j hj => ⟨(X.2.2.2.2.2.1 j hj).1, ?_⟩, X.2.2.2.2.2.2⟩
  rw [h_j_sj, if_pos rfl]
  unfold vp_updL
  simp only []
  by_cases e : j = k
  · rw [if_pos e, if_pos e]
  · rw [if_neg e, if_neg e]; exact (X.2.2.2.2.2.1 j hj).2
/-- the place of a note is written -/
theorem SY.wx {ρ : Nat → Nat} {h : hS} (X : SY ρ h P lt S lab) (hls : 100 ≤ lt) (k : Nat) (v : Int32) : SY ρ (s_i h (P 35) k v) P lt (S.1, S.2.1, S.2.2.1, S.2.2.2.1, (fun j => if j = k then v.toInt else S.2.2.2.2.1 j), S.2.2.2.2.2) lab := by
  have f16 := X.f16
  have f35 := X.f35
  have ne : P 16 ≠ P 35 := fun e => by have h1 := f16.1; rw [e, f35.1] at h1; exact absurd h1 (by decide)
  exact (X.wi hls (a := P 35) (k := k) (v := v) (S' := (S.1, S.2.1, S.2.2.1, S.2.2.2.1, (fun j => if j = k then v.toInt else S.2.2.2.2.1 j), S.2.2.2.2.2)) f35.2.1 rfl X.2.2.2.1.2.2 (by rw [if_neg ne]; exact X.2.1.1) (by rw [if_neg ne]; exact X.2.1.2) (fun j hj => by rw [if_neg X.1.2.2.1]; exact X.2.2.2.2.1 j hj) (fun j hj => by
    rw [if_pos rfl]
    refine ⟨?_, (X.2.2.2.2.2.1 j hj).2⟩
    unfold upd
    simp only []
    by_cases e : j = k
    · rw [if_pos e, if_pos e, toInt_iI]
    · rw [if_neg e, if_neg e]; exact (X.2.2.2.2.2.1 j hj).1) (fun j hj => by rw [if_neg (fun e => X.1.2.2.2.2.1 e.symm)]; exact X.2.2.2.2.2.2 j hj)).1
/-- how many were refused is written -/
theorem SY.wu {ρ : Nat → Nat} {h : hS} (X : SY ρ h P lt S lab) (hls : 100 ≤ lt) (k : Nat) (v : Int32) : SY ρ (s_i h (P 37) k v) P lt (S.1, S.2.1, S.2.2.1, S.2.2.2.1, S.2.2.2.2.1, S.2.2.2.2.2.1, (fun j => if j = k then v else S.2.2.2.2.2.2 j)) lab := by
  have f16 := X.f16
  have f37 := X.f37
  have ne : P 16 ≠ P 37 := fun e => by have h1 := f16.1; rw [e, f37.1] at h1; exact absurd h1 (by decide)
  exact (X.wi hls (a := P 37) (k := k) (v := v) (S' := (S.1, S.2.1, S.2.2.1, S.2.2.2.1, S.2.2.2.2.1, S.2.2.2.2.2.1, (fun j => if j = k then v else S.2.2.2.2.2.2 j))) f37.2.1 rfl X.2.2.2.1.2.2 (by rw [if_neg ne]; exact X.2.1.1) (by rw [if_neg ne]; exact X.2.1.2) (fun j hj => by rw [if_neg X.1.2.2.2.1]; exact X.2.2.2.2.1 j hj) (fun j hj => by rw [if_neg X.1.2.2.2.2.1]; exact X.2.2.2.2.2.1 j hj) (fun j hj => by
    rw [if_pos rfl]
    unfold upd
    simp only []
    by_cases e : j = k
    · rw [if_pos e, if_pos e]
    · rw [if_neg e, if_neg e]; exact X.2.2.2.2.2.2 j hj)).1
/-- the number of notes is written -/
theorem SY.wnn {ρ : Nat → Nat} {h : hS} (X : SY ρ h P lt S lab) (hls : 100 ≤ lt) {nn : Nat} {NX : Nat → Int} {NV : Nat → Int64} (hn : ∀ k, k < nn → h_i h (P 35) k = iI (NX k) ∧ h_j h (P 36) k = NV k) : SY ρ (s_i h (P 16) 6 (iI nn)) P lt (S.1, S.2.1, S.2.2.1, nn, NX, NV, S.2.2.2.2.2.2) lab := by
  have f16 := X.f16
  have ne2 : P 33 ≠ P 16 := fun e => by have h1 := f16.1; rw [← e, X.f33.1] at h1; exact absurd h1 (by decide)
  have ne3 : P 35 ≠ P 16 := fun e => by have h1 := f16.1; rw [← e, X.f35.1] at h1; exact absurd h1 (by decide)
  have ne4 : P 37 ≠ P 16 := fun e => by have h1 := f16.1; rw [← e, X.f37.1] at h1; exact absurd h1 (by decide)
  exact (X.wi hls (a := P 16) (k := 6) (v := iI nn) (S' := (S.1, S.2.1, S.2.2.1, nn, NX, NV, S.2.2.2.2.2.2)) f16.2.1 rfl X.2.2.2.1.2.2 (by rw [if_pos rfl]; unfold upd; rw [if_neg (by decide)]; exact X.2.1.1) (by rw [if_pos rfl]; unfold upd; rw [if_pos rfl]) (fun j hj => by rw [if_neg ne2]; exact X.2.2.2.2.1 j hj) (fun j hj => by rw [if_neg ne3]; exact hn j hj) (fun j hj => by rw [if_neg ne4]; exact X.2.2.2.2.2.2 j hj)).1
theorem tr_lt {ρ : Nat → Nat} {h g : hS} (t : tr ρ h (rg lt) ρ g) : tr ρ h (RT1 lt) ρ g := t.mono (fun q z => by have : q = lt := z; unfold RT1; omega)
theorem take_notes (N : Nat) (h1 : 100 ≤ lt) (hd : lt + 50 ≤ lo ∨ lo + 50 ≤ lt) {C : Cs} {na : Nat} {E : AcT} {nn : Nat} {U : Nat → Int32} : ∀ (m i : Nat) (ρ : Nat → Nat) (h : hS) (NX : Nat → Int) (NV : Nat → Int64) (fuel : Nat), i + m = 8 → SY ρ h P lt (C, na, E, nn, NX, NV, U) lab → SY ρ h O lo T lob → (∀ k, k < i → h_i h (P 35) k = h_i h (O 35) k ∧ h_j h (P 36) k = h_j h (O 36) k) → ∃ g NX' NV', f_State_take_85 N (m + (fuel + 1)) h (P 16) (some (O 16)) (iI i) = f_State_take_131 N N (s_i g (P 16) 6 (iI T.2.2.2.1)) (P 16) (some (O 16)) (0 : Int32) ∧ tr ρ h (RT1 lt) ρ g ∧ SY ρ g P lt (C, na, E, nn, NX', NV', U) lab ∧ (∀ k, k < 8 → h_i g (P 35) k = h_i g (O 35) k ∧ h_j g (P 36) k = h_j g (O 36) k) ∧ hm g = hm h ∧ pSt g (P 16) = pSt h (P 16) := by
  intro m
  induction m with
  | zero =>
    intro i ρ h NX NV fuel hi X Z J
    have e : i = 8 := by omega
    subst e
    refine ⟨h, NX, NV, ?_, tr.rf, X, J, rfl, rfl⟩
    rw [Nat.zero_add]
    unfold f_State_take_85
    rw [if_pos (show (8 : Int32) ≤ iI (8 : Nat) by decide), gI_k Z.f16.1, Z.2.1.2, pI_k X.f16.1]
  | succ m ih =>
    intro i ρ h NX NV fuel hi X Z J
    have f35 := X.f35
    have f36 := X.f36
    have t1 : tr ρ h (rg lt) ρ (s_i h (P 35) i (h_i h (O 35) i)) := tr_si f35.2.1
    have X1 := X.wx h1 i (h_i h (O 35) i)
    have Z1 := Z.other (tr_lt t1) hd h1
    have t2 : tr ρ (s_i h (P 35) i (h_i h (O 35) i)) (rg lt) ρ (s_j (s_i h (P 35) i (h_i h (O 35) i)) (P 36) i (h_j h (O 36) i)) := tr_sj f36.2.1
    have X2 := X1.wj h1 i (h_j h (O 36) i)
    have Z2 := Z1.other (tr_lt t2) hd h1
    have nO : O 35 ≠ P 35 := fun e => by have h2 := Z.f35.2.1; rw [e, f35.2.1] at h2; omega
    have nO2 : O 36 ≠ P 36 := fun e => by have h2 := Z.f36.2.1; rw [e, f36.2.1] at h2; omega
    obtain ⟨g, NX', NV', a1, a2, a3, a4, a5, a6⟩ := ih (i + 1) ρ (s_j (s_i h (P 35) i (h_i h (O 35) i)) (P 36) i (h_j h (O 36) i)) _ _ fuel (by omega) X2 Z2 (fun k hk => by
      rw [h_i_sj, h_i_si, if_pos rfl, h_i_si, if_neg nO, h_j_sj, if_pos rfl, h_j_sj, if_neg nO2, h_j_si]
      unfold upd vp_updL
      by_cases e : k = i
      · rw [if_pos e, if_pos e, e]; exact ⟨rfl, rfl⟩
      · rw [if_neg e, if_neg e]; exact J k (by omega))
    refine ⟨g, NX', NV', ?_, (tr_lt t1).trans ((tr_lt t2).trans a2), a3, a4, a5, a6⟩
    rw [show m + 1 + (fuel + 1) = (m + (fuel + 1)) + 1 by omega]
    unfold f_State_take_85
    rw [if_neg (show ¬ (8 : Int32) ≤ iI i from fun z => absurd ((iI_le (a := 8) (by omega) (by omega)).mp z) (by omega)), gR_k X.f16.1, X.ref (i := 16) (k := 4) (j := 35) (by decide), gR_k Z.f16.1, Z.ref (i := 16) (k := 4) (j := 35) (by decide), aI_iI (z := (i : Int)) ⟨Z.f35.1, Z.f35.2.2.1⟩ (by omega) (by omega) (by omega), Int.toNat_natCast, uI_iI (z := (i : Int)) ⟨f35.1, f35.2.2.1⟩ (by omega) (by omega) (by omega), Int.toNat_natCast, gR_k X1.f16.1, X1.ref (i := 16) (k := 5) (j := 36) (by decide), gR_k Z1.f16.1, Z1.ref (i := 16) (k := 5) (j := 36) (by decide), aJ_i (h := s_i h (P 35) i (h_i h (O 35) i)) (a := O 36) (n := 8) ⟨Z.f36.1, Z.f36.2.2.1⟩ (show i < 8 by omega) (by omega), h_j_si, uJ_i (h := s_i h (P 35) i (h_i h (O 35) i)) (a := P 36) (n := 8) ⟨f36.1, f36.2.2.1⟩ (show i < 8 by omega) (by omega), bn_i, show (1 : Int32) = iI 1 from rfl, iI_add, show (i : Int) + 1 = ((i + 1 : Nat) : Int) by omega]
    exact a1
theorem take_ref (N : Nat) (h1 : 100 ≤ lt) (hd : lt + 50 ≤ lo ∨ lo + 50 ≤ lt) {C : Cs} {na : Nat} {E : AcT} {nn : Nat} {NX : Nat → Int} {NV : Nat → Int64} : ∀ (m i : Nat) (ρ : Nat → Nat) (h : hS) (U : Nat → Int32) (fuel : Nat), i + m = 3 → SY ρ h P lt (C, na, E, nn, NX, NV, U) lab → SY ρ h O lo T lob → (∀ k, k < i → U k = T.2.2.2.2.2.2 k) → ∃ g, f_State_take_131 N (m + (fuel + 1)) h (P 16) (some (O 16)) (iI i) = some ((), g) ∧ tr ρ h (RT1 lt) ρ g ∧ SY ρ g P lt (C, na, E, nn, NX, NV, T.2.2.2.2.2.2) lab ∧ hm g = hm h ∧ pSt g (P 16) = pSt h (P 16) := by
  intro m
  induction m with
  | zero =>
    intro i ρ h U fuel hi X Z J
    have e : i = 3 := by omega
    subst e
    have f37 := X.f37
    refine ⟨h, ?_, tr.rf, ?_, rfl, rfl⟩
    · rw [Nat.zero_add]
      unfold f_State_take_131
      rw [gR_k X.f16.1, X.ref (i := 16) (k := 7) (j := 37) (by decide), lnA_i ⟨f37.1, f37.2.2.1⟩, if_pos (show iI (3 : Nat) ≤ iI (3 : Nat) by decide)]
    · exact ⟨X.1, X.2.1, X.2.2.1, X.2.2.2.1, X.2.2.2.2.1, X.2.2.2.2.2.1, fun k hk => by rw [X.2.2.2.2.2.2 k hk]; exact J k hk⟩
  | succ m ih =>
    intro i ρ h U fuel hi X Z J
    have f37 := X.f37
    have hO : h_i h (O 37) i = T.2.2.2.2.2.2 i := Z.2.2.2.2.2.2 i (by omega)
    have t1 : tr ρ h (rg lt) ρ (s_i h (P 37) i (T.2.2.2.2.2.2 i)) := tr_si f37.2.1
    have X1 := X.wu h1 i (T.2.2.2.2.2.2 i)
    have Z1 := Z.other (tr_lt t1) hd h1
    obtain ⟨g, a1, a2, a3, a4, a5⟩ := ih (i + 1) ρ (s_i h (P 37) i (T.2.2.2.2.2.2 i)) _ fuel (by omega) X1 Z1 (fun k hk => by
      by_cases e : k = i
      · rw [if_pos e, e]
      · rw [if_neg e]; exact J k (by omega))
    refine ⟨g, ?_, (tr_lt t1).trans a2, a3, a4, a5⟩
    rw [show m + 1 + (fuel + 1) = (m + (fuel + 1)) + 1 by omega]
    unfold f_State_take_131
    rw [gR_k X.f16.1, X.ref (i := 16) (k := 7) (j := 37) (by decide), lnA_i ⟨f37.1, f37.2.2.1⟩, if_neg (show ¬ iI (3 : Nat) ≤ iI i from fun z => absurd ((iI_le (by omega) (by omega)).mp z) (by omega)), gR_k X.f16.1, X.ref (i := 16) (k := 7) (j := 37) (by decide), gR_k Z.f16.1, Z.ref (i := 16) (k := 7) (j := 37) (by decide), aI_iI (z := (i : Int)) ⟨Z.f37.1, Z.f37.2.2.1⟩ (by omega) (by omega) (by omega), Int.toNat_natCast, hO, uI_iI (z := (i : Int)) ⟨f37.1, f37.2.2.1⟩ (by omega) (by omega) (by omega), Int.toNat_natCast, bn_i, show (1 : Int32) = iI 1 from rfl, iI_add, show (i : Int) + 1 = ((i + 1 : Nat) : Int) by omega]
    exact a1
/-- a state takes another over -/
theorem stake_is (N : Nat) (hN : 100 ≤ N) {ρ : Nat → Nat} {h : hS} (h1 : 100 ≤ lt) (h2 : 100 ≤ lo) (hd : lt + 50 ≤ lo ∨ lo + 50 ≤ lt) (X : SY ρ h P lt S lab) (Z : SY ρ h O lo T lob) (hT : T.2.1 ≤ 40) (hT8 : T.2.2.2.1 ≤ 8) : ∃ ρ' g, f_State_take N h (P 16) (some (O 16)) = some ((), g) ∧ tr ρ h (RT1 lt) ρ' g ∧ SY ρ' g P lt T lab ∧ hm g + pSt g (P 16) ≤ hm h + pSt h (P 16) := by
  obtain ⟨f1, e1⟩ : ∃ f, N = 4 + (f + 1) := ⟨N - 5, by omega⟩
  obtain ⟨f2, e2⟩ : ∃ f, N = T.2.1 + (f + 1) := ⟨N - T.2.1 - 1, by omega⟩
  obtain ⟨f3, e3⟩ : ∃ f, N = 8 + (f + 1) := ⟨N - 9, by omega⟩
  obtain ⟨f4, e4⟩ : ∃ f, N = 3 + (f + 1) := ⟨N - 4, by omega⟩
  obtain ⟨ρ1, g1, a1, a2, a3, a4⟩ := take_chains (S := S) (T := T) (P := P) (O := O) (lab := lab) (lob := lob) N hN h1 h2 hd 4 0 ρ h f1 (by omega) (X.cg (r := S.2) (C := S.1) (fun c hc => by rw [if_neg (by omega)])) Z
  rw [← e1] at a1
  have Z1 := Z.other a2 hd h1
  obtain ⟨ρ2, g2, E', b1, b2, b3, b4, b5⟩ := take_acts (T := T) (P := P) (O := O) (lab := lab) (lob := lob) N hN h1 h2 hd hT T.2.1 0 ρ1 g1 S.2.2.1 f2 (by omega) (C := T.1) (na := S.2.1) (r := S.2.2.2) a3 Z1 (fun k hk => by omega)
  rw [← e2] at b1
  have Z2 := Z1.other b2 hd h1
  obtain ⟨X3, p3⟩ := b3.wna h1 (na := T.2.1) (E := T.2.2.1) (fun k hk => by
    by_cases e : k < T.2.1
    · obtain ⟨_, a, c1, c2⟩ := b4 k e
      exact Or.inr ⟨a, _, _, _, c1, c2, fun _ => ⟨rfl, rfl, rfl⟩⟩
    · rcases b3.2.2.2.1.2.2 k hk with ⟨c1, c2⟩ | ⟨a', n', p', Y', c1, c2, c3⟩
      · exact Or.inl ⟨c1, by omega⟩
      · exact Or.inr ⟨a', n', p', Y', c1, c2, fun z => absurd z e⟩) (fun k hk => (b4 k hk).1)
  have t3 : tr ρ2 g2 (rg lt) ρ2 (s_i g2 (P 16) 3 (iI T.2.1)) := tr_si b3.f16.2.1
  have Z3 := Z2.other (tr_lt t3) hd h1
  have m3 : hm (s_i g2 (P 16) 3 (iI T.2.1)) = hm g2 := rfl
  obtain ⟨g4, NX', NV', c1, c2, c3, c4, c5, c6⟩ := take_notes (T := T) (P := P) (O := O) (lab := lab) (lob := lob) N h1 hd (C := T.1) (na := T.2.1) (E := T.2.2.1) (nn := S.2.2.2.1) (U := S.2.2.2.2.2.2) 8 0 ρ2 (s_i g2 (P 16) 3 (iI T.2.1)) S.2.2.2.2.1 S.2.2.2.2.2.1 f3 (by omega) X3 Z3 (fun k hk => by omega)
  rw [← e3] at c1
  have Z4 := Z3.other c2 hd h1
  have X5 := c3.wnn h1 (nn := T.2.2.2.1) (NX := T.2.2.2.2.1) (NV := T.2.2.2.2.2.1) (fun k hk => by
    obtain ⟨q1, q2⟩ := c4 k (by omega)
    obtain ⟨q3, q4⟩ := Z4.2.2.2.2.2.1 k hk
    exact ⟨q1.trans q3, q2.trans q4⟩)
  have t5 : tr ρ2 g4 (rg lt) ρ2 (s_i g4 (P 16) 6 (iI T.2.2.2.1)) := tr_si c3.f16.2.1
  have Z5 := Z4.other (tr_lt t5) hd h1
  have m5 : hm (s_i g4 (P 16) 6 (iI T.2.2.2.1)) = hm g4 := rfl
  have p5 : pSt (s_i g4 (P 16) 6 (iI T.2.2.2.1)) (P 16) = pSt g4 (P 16) := rfl
  obtain ⟨g6, d1, d2, d3, d4, d5⟩ := take_ref (T := T) (P := P) (O := O) (lab := lab) (lob := lob) N h1 hd (C := T.1) (na := T.2.1) (E := T.2.2.1) (nn := T.2.2.2.1) (NX := T.2.2.2.2.1) (NV := T.2.2.2.2.2.1) 3 0 ρ2 (s_i g4 (P 16) 6 (iI T.2.2.2.1)) S.2.2.2.2.2.2 f4 (by omega) X5 Z5 (fun k hk => by omega)
  rw [← e4] at d1
  refine ⟨ρ2, g6, ?_, a2.trans (b2.trans ((tr_lt t3).trans (c2.trans ((tr_lt t5).trans d2)))), d3, by omega⟩
  unfold f_State_take
  rw [show f_State_take_2 N N h (P 16) (some (O 16)) (0 : Int32) = _ from a1, show f_State_take_30 N N g1 (P 16) (some (O 16)) (0 : Int32) = _ from b1]
  unfold f_State_take_75
  rw [gI_k Z2.f16.1, Z2.2.1.1, pI_k b3.f16.1, show f_State_take_85 N N (s_i g2 (P 16) 3 (iI T.2.1)) (P 16) (some (O 16)) (0 : Int32) = _ from c1]
  exact d1
end
