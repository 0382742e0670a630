section
variable {P O : Nat → Nat} {lt lo : Nat} {S T : StT} {lab lob : Nat → Nat}
theorem SY.cg {ρ : Nat → Nat} {h : hS} {C : Cs} {r : Nat × AcT × Nat × (Nat → Int) × (Nat → Int64) × (Nat → Int32)} (X : SY ρ h P lt (C, r) lab) {C' : Cs} (e : ∀ c, c < 4 → C' c = C c) : SY ρ h P lt (C', r) lab := ⟨X.1, X.2.1, fun c hc => by have := X.2.2.1 c hc; simp only [] at this ⊢; rw [e c hc]; exact this, X.2.2.2⟩
def RT1 (lt : Nat) : Nat → Prop := fun q => lt ≤ q ∧ q < lt + 50
theorem SY.other {ρ ρ' : Nat → Nat} {h g : hS} (Z : SY ρ h O lo T lob) (t : tr ρ h (RT1 lt) ρ' g) (hd : lt + 50 ≤ lo ∨ lo + 50 ≤ lt) (h9 : 100 ≤ lt) : SY ρ' g O lo T lob := Z.keep t (fun z => by unfold RT1 at z; omega) (fun q h1 h2 z => by unfold RT1 at z; omega)
theorem take_chains (N : Nat) (hN : 100 ≤ N) (h1 : 100 ≤ lt) (h2 : 100 ≤ lo) (hd : lt + 50 ≤ lo ∨ lo + 50 ≤ lt) : ∀ (m i : Nat) (ρ : Nat → Nat) (h : hS) (fuel : Nat), i + m = 4 → SY ρ h P lt ((fun c => if c < i then T.1 c else S.1 c), S.2) lab → SY ρ h O lo T lob → ∃ ρ' g, f_State_take_2 N (m + (fuel + 1)) h (P 16) (some (O 16)) (iI i) = f_State_take_30 N N g (P 16) (some (O 16)) (0 : Int32) ∧ tr ρ h (RT1 lt) ρ' g ∧ SY ρ' g P lt (T.1, S.2) lab ∧ hm g + pSt g (P 16) ≤ hm h + pSt h (P 16) := by
  intro m
  induction m with
  | zero =>
    intro i ρ h fuel hi X Z
    have e : i = 4 := by omega
    subst e
    refine ⟨ρ, h, ?_, tr.rf, X.cg (fun c hc => by rw [if_pos hc]), Nat.le_refl _⟩
    rw [Nat.zero_add]
    unfold f_State_take_2
    rw [if_pos (show (4 : Int32) ≤ iI (4 : Nat) by decide)]
  | succ m ih =>
    intro i ρ h fuel hi X Z
    have hi4 : i < 4 := by omega
    obtain ⟨ρ1, g1, a1, a2, a3, a4⟩ := chtake_is N hN (show lt + 1 + i ≠ 9 by omega) (X.2.2.1 i hi4) (show lo + 1 + i ≠ lt + 1 + i by omega) (Z.2.2.1 i hi4)
    obtain ⟨X1, p1⟩ := X.ccw h1 hi4 a2 (x := T.1 i) a3
    have t1 : tr ρ h (RT1 lt) ρ1 g1 := a2.mono (fun q z => by have : q = lt + 1 + i := z; unfold RT1; omega)
    have X1' : SY ρ1 g1 P lt ((fun c => if c < i + 1 then T.1 c else S.1 c), S.2) lab := X1.cg (fun c hc => by
      simp only [upC]
      by_cases e : c = i
      · rw [if_pos e, if_pos (by omega), e]
      · rw [if_neg e]
        by_cases e2 : c < i
        · rw [if_pos e2, if_pos (by omega)]
        · rw [if_neg e2, if_neg (by omega)])
    obtain ⟨ρ2, g2, b1, b2, b3, b4⟩ := ih (i + 1) ρ1 g1 fuel (by omega) X1' (Z.other t1 hd h1)
    refine ⟨ρ2, g2, ?_, t1.trans b2, b3, by omega⟩
    rw [show m + 1 + (fuel + 1) = (m + (fuel + 1)) + 1 by omega]
    unfold f_State_take_2 f_State_take_22
    rw [if_neg (show ¬ (4 : Int32) ≤ iI i from fun z => absurd ((iI_le (a := 4) (by omega) (by omega)).mp z) (by omega)), gR_k X.f16.1, X.ref (i := 16) (k := 0) (j := 32) (by decide), aR_i X.f32.1 X.f32.2.2.1 hi4 (by omega), X.chr hi4, gR_k Z.f16.1, Z.ref (i := 16) (k := 0) (j := 32) (by decide), aR_i Z.f32.1 Z.f32.2.2.1 hi4 (by omega), Z.chr hi4, cv_k (X.2.2.1 i hi4).k, a1, cl_s, bn_i, show (1 : Int32) = iI 1 from rfl, iI_add, show (i : Int) + 1 = ((i + 1 : Nat) : Int) by omega]
    exact b1
/-- the acts that are taken over yet -/
def TJ (ρ : Nat → Nat) (h : hS) (P lab : Nat → Nat) (E : AcT) (i : Nat) : Prop := ∀ k, k < i → h_i h (P 33) k = iI (E k).1 ∧ ∃ a, h_r h (P 34) k = some a ∧ CH ρ (lab k) h a (E k).2.1 (E k).2.2.1 (E k).2.2.2
theorem take_acts (N : Nat) (hN : 100 ≤ N) (h1 : 100 ≤ lt) (h2 : 100 ≤ lo) (hd : lt + 50 ≤ lo ∨ lo + 50 ≤ lt) (hT : T.2.1 ≤ 40) {C : Cs} {na : Nat} {r : Nat × (Nat → Int) × (Nat → Int64) × (Nat → Int32)} : ∀ (m i : Nat) (ρ : Nat → Nat) (h : hS) (E : AcT) (fuel : Nat), i + m = T.2.1 → SY ρ h P lt (C, na, E, r) lab → SY ρ h O lo T lob → TJ ρ h P lab T.2.2.1 i → ∃ ρ' g E', f_State_take_30 N (m + (fuel + 1)) h (P 16) (some (O 16)) (iI i) = f_State_take_75 N g (P 16) (some (O 16)) ∧ tr ρ h (RT1 lt) ρ' g ∧ SY ρ' g P lt (C, na, E', r) lab ∧ TJ ρ' g P lab T.2.2.1 T.2.1 ∧ hm g + pSt g (P 16) ≤ hm h + pSt h (P 16) := by
  intro m
  induction m with
  | zero =>
    intro i ρ h E fuel hi X Z J
    have e : i = T.2.1 := by omega
    subst e
    refine ⟨ρ, h, E, ?_, tr.rf, X, J, Nat.le_refl _⟩
    rw [Nat.zero_add]
    unfold f_State_take_30
    rw [gI_k Z.f16.1, Z.2.1.1, if_pos ((iI_le (by omega) (by omega)).mpr (by omega))]
  | succ m ih =>
    intro i ρ h E fuel hi X Z J
    have hi40 : i < 40 := by omega
    have f16 := X.f16
    have f33 := X.f33
    have l1 := X.2.2.2.1.1
    have l2 := X.2.2.2.1.2.1
    have hli := l2 i hi40
    have ne1 : P 16 ≠ P 33 := fun e => by have h1 := f16.1; rw [e, f33.1] at h1; exact absurd h1 (by decide)
    have n9 : ¬ rg lt 9 := fun z => by have : 9 = lt := z; omega
    have nlab : ∀ k, k < 40 → ¬ rg lt (lab k) := fun k hk z => by have h1 : lab k = lt := z; have := l2 k hk; omega
    have k1 : ∀ q, rg lt q → RT1 lt q := fun q z => by have : q = lt := z; unfold RT1; omega
    have k2 : ∀ q, rg (lab i) q → RT1 lt q := fun q z => by have : q = lab i := z; unfold RT1; omega
    -- the cost
    have t1 : tr ρ h (rg lt) ρ (s_i h (P 33) i (iI (T.2.2.1 i).1)) := tr_si f33.2.1
    obtain ⟨X1, p1⟩ := X.wi h1 (a := P 33) (k := i) (v := iI (T.2.2.1 i).1) (S' := (C, na, upE E i ((T.2.2.1 i).1, (E i).2), r)) f33.2.1 rfl (fun k hk => by
        rcases X.2.2.2.1.2.2 k hk with ⟨c1, c2⟩ | ⟨a', n', p', Y', c1, c2, c3⟩
        · exact Or.inl ⟨c1, c2⟩
        · refine Or.inr ⟨a', n', p', Y', c1, c2, fun z => ?_⟩
          have := c3 z
          simp only [upE]
          by_cases e : k = i
          · subst e; rw [if_pos rfl]; exact this
          · rw [if_neg e]; exact this) (by rw [if_neg ne1]; exact X.2.1.1) (by rw [if_neg ne1]; exact X.2.1.2) (fun j hj => by
        rw [if_pos rfl]
        unfold upd
        simp only [upE]
        by_cases e : j = i
        · rw [if_pos e, if_pos e]
        · rw [if_neg e, if_neg e]; exact X.2.2.2.2.1 j hj) (fun j hj => by rw [if_neg (fun e => X.1.2.2.1 e.symm)]; exact X.2.2.2.2.2.1 j hj) (fun j hj => by rw [if_neg (fun e => X.1.2.2.2.1 e.symm)]; exact X.2.2.2.2.2.2 j hj)
    have v1 : ∀ k, k < i + 1 → h_i (s_i h (P 33) i (iI (T.2.2.1 i).1)) (P 33) k = iI (T.2.2.1 k).1 := fun k hk => by
      rw [h_i_si, if_pos rfl]
      unfold upd
      by_cases e : k = i
      · rw [if_pos e, e]
      · rw [if_neg e]; exact (J k (by omega)).1
    have Z1 := Z.other (t1.mono k1) hd h1
    have J1 : ∀ k, k < i → ∃ a, h_r (s_i h (P 33) i (iI (T.2.2.1 i).1)) (P 34) k = some a ∧ CH ρ (lab k) (s_i h (P 33) i (iI (T.2.2.1 i).1)) a (T.2.2.1 k).2.1 (T.2.2.1 k).2.2.1 (T.2.2.1 k).2.2.2 := fun k hk => by
      obtain ⟨a, b1, b2⟩ := (J k hk).2
      exact ⟨a, b1, b2.keep t1 n9 (nlab k (by omega))⟩
    have m1 : hm (s_i h (P 33) i (iI (T.2.2.1 i).1)) = hm h := rfl
    have hO : h_i h (O 33) i = iI (T.2.2.1 i).1 := Z.2.2.2.2.1 i (by omega)
    generalize hg1 : s_i h (P 33) i (iI (T.2.2.1 i).1) = g1 at *
    -- its chain
    obtain ⟨ρ2, g2, a, n, p, Y, a1, a2, a3, a4, a5, a6, a7, a8, a9⟩ := actChain_is N X1 h1 hi40
    have Z2 := Z1.other (a2.mono k1) hd h1
    obtain ⟨ao, o1, o2⟩ := Z2.chain (k := i) (by omega) hT
    have hlo := Z2.2.2.2.1.2.1 i hi40
    obtain ⟨ρ3, g3, b1, b2, b3, b4⟩ := chtake_is N hN (show lab i ≠ 9 by omega) a5 (show lob i ≠ lab i by omega) o2
    obtain ⟨X3, p3⟩ := a3.chw h1 hi40 a4 b2 (x := (T.2.2.1 i).2) b3 (T.2.2.1 i).1 (fun _ => by simp [upE])
    have Z3 := Z2.other (b2.mono k2) hd h1
    have f33' := a3.f33
    have f34' := a3.f34
    have s33 : h_i g3 (P 33) = h_i g1 (P 33) := by
      obtain ⟨c1, c2, c3, c4⟩ := b2.2 (P 33) f33'.2.2.2
      rw [(c4 (by rw [f33'.2.1]; intro z; have : lt = lab i := z; omega)).1, a8 _ X1.f33.2.2.2]
    have s34 : h_r g3 (P 34) = h_r g2 (P 34) := by
      obtain ⟨c1, c2, c3, c4⟩ := b2.2 (P 34) f34'.2.2.2
      exact (c4 (by rw [f34'.2.1]; intro z; have : lt = lab i := z; omega)).2.2
    have J3 : TJ ρ3 g3 P lab T.2.2.1 (i + 1) := fun k hk => by
      refine ⟨by rw [s33]; exact v1 k hk, ?_⟩
      by_cases e : k = i
      · subst e
        exact ⟨a, by rw [s34]; exact a4, b3⟩
      · obtain ⟨a', c1, c2⟩ := J1 k (by omega)
        refine ⟨a', by rw [s34, a9 k e]; exact c1, (c2.keep a2 n9 (nlab k (by omega))).keep b2 (fun z => by have : 9 = lab i := z; omega) (fun z => e (l1 k i (by omega) hi40 z))⟩
    obtain ⟨ρ4, g4, E', d1, d2, d3, d4, d5⟩ := ih (i + 1) ρ3 g3 _ fuel (by omega) X3 Z3 J3
    refine ⟨ρ4, g4, E', ?_, (((t1.mono k1).trans (a2.mono k1)).trans (b2.mono k2)).trans d2, d3, d4, by omega⟩
    rw [show m + 1 + (fuel + 1) = (m + (fuel + 1)) + 1 by omega]
    unfold f_State_take_30 f_State_take_61 f_State_take_66 f_State_take_69
    rw [gI_k Z.f16.1, Z.2.1.1, if_neg (show ¬ iI T.2.1 ≤ iI i from fun z => absurd ((iI_le (by omega) (by omega)).mp z) (by omega)), if_neg (show ¬ (40 : Int32) ≤ iI i from fun z => absurd ((iI_le (a := 40) (by omega) (by omega)).mp z) (by omega)), gR_k f16.1, X.ref (i := 16) (k := 1) (j := 33) (by decide), gR_k Z.f16.1, Z.ref (i := 16) (k := 1) (j := 33) (by decide), aI_iI (z := (i : Int)) ⟨Z.f33.1, Z.f33.2.2.1⟩ (by omega) (by omega) (by omega), Int.toNat_natCast, hO, uI_iI (z := (i : Int)) ⟨f33.1, f33.2.2.1⟩ (by omega) (by omega) (by omega), Int.toNat_natCast, hg1, cv_k X1.f16.1, a1, cl_s, cv_k Z2.f16.1, actChain_y N Z2 hi40 o1, cl_s, cv_k a5.k, b1, cl_s, bn_i, show (1 : Int32) = iI 1 from rfl, iI_add, show (i : Int) + 1 = ((i + 1 : Nat) : Int) by omega]
    exact d1
end
