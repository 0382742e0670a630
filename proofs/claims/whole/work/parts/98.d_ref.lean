/-! THE REFERENCE: the tables of a text's steps are laid -/
section
variable {ρ : Nat → Nat} {A : Nat → Nat} {m : Nat} {h g u : hS} {F F' : FT}
theorem onTop_laid (N : Nat) (M : MO A m h) {c : Nat} (hc : c < 4) {l : Int} (hl : 0 ≤ l ∧ l < 1000) (e : h_i h (A 16) c = iI l) : f_M_onTop N h m (iI c) = some (iI l, h) := by
  have m16 : (16, 50, 4) ∈ mrows := by decide
  unfold f_M_onTop
  rw [gR_at M m16, aI_iI (z := (c : Int)) (M.ro (i := 16) (n := 4) m16) (by omega) (by omega) (by omega), Int.toNat_natCast, e, if_neg (show ¬ iI l = (-1 : Int32) from fun z => by have := (iI_eq (b := -1) (by omega) (by omega)).mp (z.trans (by decide)); omega), gR_at M m16, aI_iI (z := (c : Int)) (M.ro (i := 16) (n := 4) m16) (by omega) (by omega) (by omega), Int.toNat_natCast, e]
/-- the table of a cost, and what is laid then -/
theorem onTop_S (N : Nat) (hN : 30000 ≤ N) (X : RM ρ A m h F) (L : LD A h F) {c : Nat} (hc : c < 4) : ∃ ρ' g, ∃ t : Nat, f_M_onTop N h m (iI c) = some (iI t, g) ∧ RM ρ' A m g F ∧ tr ρ h (rg 300) ρ' g ∧ hm g + pTb A g ≤ hm h + pTb A h ∧ t < 1000 ∧ LD A g F ∧ h_i g (A 16) c = iI t ∧ (∀ k, k < 4 → k ≠ c → h_i g (A 16) k = h_i h (A 16) k) ∧ (h_i h (A 16) c = iI (-1) ∨ h_i g (A 16) c = h_i h (A 16) c) ∧ (h_i g (A 2) = h_i h (A 2) ∧ h_i g (A 18) = h_i h (A 18) ∧ h_i g (A 19) = h_i h (A 19)) ∧ ∀ j, j ≠ 9 → j ≠ 12 → j ≠ 15 → h_i g m j = h_i h m j := by
  obtain ⟨l, l1, l2⟩ := L c hc
  rcases l2 with z | z
  · obtain ⟨ρ', g, t, o1, o2, o3, o4, o5, o6, o7, o8, o9, o10, o11⟩ := onTop_M N hN X L hc
    exact ⟨ρ', g, t, o1, o2, o3, o4, o5, o7, by rw [o9, upd_a], fun k hk hne => by rw [o9, upd_o hne], Or.inl (by rw [l1, z]), o10, o11⟩
  · have el : l = ((l.toNat : Nat) : Int) := by omega
    refine ⟨ρ, h, l.toNat, ?_, X, tr.rf, Nat.le_refl _, by omega, L, by rw [l1, ← el], fun _ _ _ => rfl, Or.inr rfl, ⟨rfl, rfl, rfl⟩, fun _ _ _ _ => rfl⟩
    rw [← el]
    exact onTop_laid N X.1.1 hc z.1 l1
theorem LD.ch (L : LD A h F) (e : h_i g (A 16) = h_i h (A 16)) (ho : ∀ (t : Int) Y, onB A h (h_i h) t Y → onB A g (h_i g) t Y) : LD A g F := fun k hk => by
  obtain ⟨l, l1, l2⟩ := L k hk
  exact ⟨l, by rw [e]; exact l1, l2.imp id (fun z => ⟨z.1, ho _ _ z.2⟩)⟩
theorem lays6 (N : Nat) (hN : 30000 ≤ N) {K a : Nat → Int} {n : Nat} (hn : n ≤ 40) (hK : ∀ j, j < n → 0 ≤ K j ∧ K j ≤ 8) (ha : ∀ j, j < n → K j = 8 → 0 ≤ a j ∧ a j ≤ 3) : ∀ (q i : Nat) (ρ : Nat → Nat) (h : hS) (fuel : Nat), i + q = n → RM ρ A m h F → LD A h F → h_i h (A 18) 0 = iI n → (∀ j, j < n → h_i h (A 18) (1 + 4 * j) = iI (K j) ∧ h_i h (A 18) (2 + 4 * j) = iI (a j)) → (∀ j, j < i → K j = 8 → ∃ t : Nat, t < 1000 ∧ h_i h (A 18) (4 + 4 * j) = iI t ∧ h_i h (A 16) (a j).toNat = iI t) → ∃ ρ' g, f_M_laysOnTop_6 N (q + (fuel + 1)) h m (A 18) (iI i) = some ((), g) ∧ RM ρ' A m g F ∧ tr ρ h (rg 300) ρ' g ∧ hm g + pTb A g ≤ hm h + pTb A h ∧ LD A g F ∧ (∀ p, (∀ j, j < n → K j = 8 → p ≠ 4 + 4 * j) → h_i g (A 18) p = h_i h (A 18) p) ∧ (h_i g (A 2) = h_i h (A 2) ∧ h_i g (A 19) = h_i h (A 19)) ∧ (∀ j, j ≠ 9 → j ≠ 12 → j ≠ 15 → h_i g m j = h_i h m j) ∧ ∀ j, j < n → K j = 8 → ∃ t : Nat, t < 1000 ∧ h_i g (A 18) (4 + 4 * j) = iI t ∧ h_i g (A 16) (a j).toNat = iI t := by
  have m18 : (18, 50, 644) ∈ mrows := by decide
  intro q
  induction q with
  | zero =>
    intro i ρ h fuel hq X L h0 hr hd
    have M := X.1.1
    refine ⟨ρ, h, ?_, X, tr.rf, Nat.le_refl _, L, fun _ _ => rfl, ⟨rfl, rfl⟩, fun _ _ _ _ => rfl, fun j hj => hd j (by omega)⟩
    rw [Nat.zero_add]
    unfold f_M_laysOnTop_6
    rw [show (0 : Int32) = iI 0 from rfl, aI_iI (z := 0) (M.ro (i := 18) (n := 644) m18) (by omega) (by omega) (by omega), show (0 : Int).toNat = 0 from rfl, h0, if_pos ((iI_le (by omega) (by omega)).mpr (by omega))]
  | succ q ih =>
    intro i ρ h fuel hq X L h0 hr hd
    have M := X.1.1
    have hi : i < n := by omega
    obtain ⟨r1, r2⟩ := hr i hi
    have hKi := hK i hi
    have e1 : iI (i : Int) + (1 : Int32) = iI ((i + 1 : Nat) : Int) := by rw [show (1 : Int32) = iI 1 from rfl, iI_add]; rfl
    have k1' : (1 : Int32) + (4 : Int32) * iI (i : Int) = iI ((1 + 4 * i : Nat) : Int) := by rw [show (4 : Int32) = iI 4 from rfl, iI_mul, show (1 : Int32) = iI 1 from rfl, iI_add]; rfl
    have k2' : (2 : Int32) + (4 : Int32) * iI (i : Int) = iI ((2 + 4 * i : Nat) : Int) := by rw [show (4 : Int32) = iI 4 from rfl, iI_mul, show (2 : Int32) = iI 2 from rfl, iI_add]; rfl
    have k4' : (4 : Int32) + (4 : Int32) * iI (i : Int) = iI ((4 + 4 * i : Nat) : Int) := by rw [show (4 : Int32) = iI 4 from rfl, iI_mul, iI_add]; rfl
    rw [show q + 1 + (fuel + 1) = (q + (fuel + 1)) + 1 by omega]
    have st : f_M_laysOnTop_6 N ((q + (fuel + 1)) + 1) h m (A 18) (iI i) = if iI (K i) = (8 : Int32) then (cl (f_M_onTop N h m (iI (a i))) fun v4 h5 => f_M_laysOnTop_42 N (f_M_laysOnTop_6 N (q + (fuel + 1))) h5 m (A 18) (iI i) (some (A 18)) (iI ((4 + 4 * i : Nat) : Int)) v4) else (f_M_laysOnTop_6 N (q + (fuel + 1)) h m (A 18) (iI ((i + 1 : Nat) : Int))) := by
      conv => lhs; unfold f_M_laysOnTop_6
      have a0 : ∀ {β : Type} (f : Int32 → Option β), aI h 50 (some (A 18)) (0 : Int32) f = f (iI n) := fun {β} f => by
        rw [show (0 : Int32) = iI 0 from rfl, aI_iI (z := 0) (M.ro (i := 18) (n := 644) m18) (by omega) (by omega) (by omega), show (0 : Int).toNat = 0 from rfl, h0]
      rw [a0, if_neg (fun z => by have := (iI_le (by omega) (by omega)).mp z; omega), k1', aI_iI (z := ((1 + 4 * i : Nat) : Int)) (M.ro (i := 18) (n := 644) m18) (by omega) (by omega) (by omega), Int.toNat_natCast, r1, k2', aI_iI (z := ((2 + 4 * i : Nat) : Int)) (M.ro (i := 18) (n := 644) m18) (by omega) (by omega) (by omega), Int.toNat_natCast, r2, cv_at M, k4']
      unfold f_M_laysOnTop_43
      rw [bn_i, e1]
    rw [st]
    by_cases q8 : K i = 8
    · have hai := ha i hi q8
      obtain ⟨n1, n2⟩ := n4 hai
      obtain ⟨ρ5, h5, t, o1, o2, o3, o4, o5, o6, o7, o8, o9, o10, o11⟩ := onTop_S N hN X L n1
      rw [n2] at o1
      rw [if_pos (show iI (K i) = (8 : Int32) by rw [q8]; rfl), o1, cl_s]
      have M5 := o2.1.1
      have f6 : frM A m h5 (s_i h5 (A 18) (4 + 4 * i) (iI t)) := frM.row (by decide) (M5.ne m18 (by decide)) _
      obtain ⟨X6, t6, hm6⟩ := o2.fr f6
      have ho6 := (o2.ch f6.c).2.2.2.1
      have i16 : h_i (s_i h5 (A 18) (4 + 4 * i) (iI t)) (A 16) = h_i h5 (A 16) := by rw [h_i_si, if_neg (M5.nn (by decide : (16, 50, 4) ∈ mrows) m18 (by decide))]
      have i18' : ∀ p, p ≠ 4 + 4 * i → h_i (s_i h5 (A 18) (4 + 4 * i) (iI t)) (A 18) p = h_i h (A 18) p := fun p hp => by rw [h_i_si, if_pos rfl, upd_o hp, o10.2.1]
      have L6 : LD A (s_i h5 (A 18) (4 + 4 * i) (iI t)) F := o6.ch i16 ho6
      obtain ⟨ρ', g, g1, g2, g3, g4, g5, g6, g7, g8, g9⟩ := ih (i + 1) ρ5 (s_i h5 (A 18) (4 + 4 * i) (iI t)) fuel (by omega) X6 L6 (by rw [i18' 0 (by omega)]; exact h0) (fun j hj => by rw [i18' _ (by omega), i18' _ (by omega)]; exact hr j hj) (fun j hj k8 => by
        by_cases e : j = i
        · subst e
          exact ⟨t, o5, by rw [h_i_si, if_pos rfl, upd_a], by rw [i16]; exact o7⟩
        · obtain ⟨t', d1, d2, d3⟩ := hd j (by omega) k8
          refine ⟨t', d1, by rw [i18' _ (by omega)]; exact d2, ?_⟩
          rw [i16]
          by_cases e2 : (a j).toNat = (a i).toNat
          · rw [e2] at d3 ⊢
            rcases o9 with z | z
            · rw [d3] at z
              have := (iI_eq (by omega) (by omega)).mp z
              omega
            · rw [z]; exact d3
          · rw [o8 _ (by have := ha j (by omega) k8; omega) e2]; exact d3)
      refine ⟨ρ', g, ?_, g2, (o3.trans t6).trans g3, ?_, g5, fun p hp => ?_, ⟨?_, ?_⟩, fun j j1 j2 j3 => ?_, g9⟩
      · unfold f_M_laysOnTop_42 f_M_laysOnTop_43
        rw [uI_iI (z := ((4 + 4 * i : Nat) : Int)) (M5.ro (i := 18) (n := 644) m18) (by omega) (by omega) (by omega), Int.toNat_natCast, bn_i, e1]
        exact g1
      · have e5 : pTb A (s_i h5 (A 18) (4 + 4 * i) (iI t)) = pTb A h5 := rfl
        rw [e5, hm6] at g4
        exact Nat.le_trans g4 o4
      · rw [g6 p hp, i18' p (hp i hi q8)]
      · rw [g7.1, h_i_si, if_neg (M5.nn (by decide : (2, 50, 644) ∈ mrows) m18 (by decide)), o10.1]
      · rw [g7.2, h_i_si, if_neg (M5.nn (by decide : (19, 50, 40) ∈ mrows) m18 (by decide)), o10.2.2]
      · rw [g8 j j1 j2 j3, h_i_si, if_neg (Ne.symm (M5.ne m18 (by decide))), o11 j j1 j2 j3]
    · rw [if_neg (show ¬ iI (K i) = (8 : Int32) from fun z => q8 ((iI_eq (b := 8) (by omega) (by omega)).mp z))]
      exact ih (i + 1) ρ h fuel (by omega) X L h0 hr (fun j hj k8 => hd j (by
        have : j ≠ i := fun e => q8 (by rw [← e]; exact k8)
        omega) k8)
theorem laysM (N : Nat) (hN : 30000 ≤ N) {K a : Nat → Int} {n : Nat} (hn : n ≤ 40) (hK : ∀ j, j < n → 0 ≤ K j ∧ K j ≤ 8) (ha : ∀ j, j < n → K j = 8 → 0 ≤ a j ∧ a j ≤ 3) (X : RM ρ A m h F) (h0 : h_i h (A 18) 0 = iI n) (hr : ∀ j, j < n → h_i h (A 18) (1 + 4 * j) = iI (K j) ∧ h_i h (A 18) (2 + 4 * j) = iI (a j)) : ∃ ρ' g, f_M_laysOnTop N h m (A 18) = some ((), g) ∧ RM ρ' A m g F ∧ tr ρ h (rg 300) ρ' g ∧ hm g + pTb A g ≤ hm h + pTb A h ∧ LD A g F ∧ (∀ p, (∀ j, j < n → K j = 8 → p ≠ 4 + 4 * j) → h_i g (A 18) p = h_i h (A 18) p) ∧ (h_i g (A 2) = h_i h (A 2) ∧ h_i g (A 19) = h_i h (A 19)) ∧ (∀ j, j ≠ 9 → j ≠ 12 → j ≠ 15 → h_i g m j = h_i h m j) ∧ ∀ j, j < n → K j = 8 → ∃ t : Nat, t < 1000 ∧ h_i g (A 18) (4 + 4 * j) = iI t ∧ h_i g (A 16) (a j).toNat = iI t := by
  have M := X.1.1
  have m16 : (16, 50, 4) ∈ mrows := by decide
  obtain ⟨h5, a1, a2, a3, a4, a5, a6⟩ := forgetL_is N (by omega) X
  obtain ⟨_, t5, hm5⟩ := X.fr a2
  have e18 : h_i h5 (A 18) = h_i h (A 18) := a5 _ (M.nn (by decide : (18, 50, 644) ∈ mrows) m16 (by decide))
  have e2 : h_i h5 (A 2) = h_i h (A 2) := a5 _ (M.nn (by decide : (2, 50, 644) ∈ mrows) m16 (by decide))
  have e19 : h_i h5 (A 19) = h_i h (A 19) := a5 _ (M.nn (by decide : (19, 50, 40) ∈ mrows) m16 (by decide))
  have em : h_i h5 m = h_i h m := a5 _ (Ne.symm (M.ne m16 (by decide)))
  have pb5 : pTb A h5 = pTb A h := by unfold pTb; rw [a2.1.2.2.1]
  obtain ⟨ρ', g, g1, g2, g3, g4, g5, g6, g7, g8, g9⟩ := lays6 N hN hn hK ha n 0 ρ h5 (N - n - 1) (by omega) a3 a4 (by rw [e18]; exact h0) (fun j hj => by rw [e18]; exact hr j hj) (fun j hj => absurd hj (Nat.not_lt_zero _))
  rw [show n + (N - n - 1 + 1) = N by omega] at g1
  refine ⟨ρ', g, ?_, g2, t5.trans g3, by rw [hm5, pb5] at g4; exact g4, g5, fun p hp => by rw [g6 p hp, e18], ⟨by rw [g7.1, e2], by rw [g7.2, e19]⟩, fun j j1 j2 j3 => by rw [g8 j j1 j2 j3, em], g9⟩
  unfold f_M_laysOnTop
  rw [cv_at M, a1, cl_s]
  exact g1
end
