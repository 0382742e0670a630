/-! THE REFERENCE: a text -/
section
variable {ρ : Nat → Nat} {A : Nat → Nat} {m : Nat} {h g u : hS} {F F' : FT} {R P U V : Nat → Int32} {β : Type}
theorem text183 (N : Nat) (M : MO A m h) {c : Nat} (hc : c < 4) : ∀ (q j fuel : Nat), j + q = 161 → f_M_text_183 N (q + (fuel + 1)) (s_w h (A 2) (nwT (h_i h (A 2)) (h_i h (A 18)) c j)) m (iI c) (iI j) = some (0, s_w h (A 2) (nwT (h_i h (A 2)) (h_i h (A 18)) c 161)) := by
  have m18 : (18, 50, 644) ∈ mrows := by decide
  have m2 : (2, 50, 644) ∈ mrows := by decide
  have n182 : A 18 ≠ A 2 := M.nn m18 m2 (by decide)
  intro q
  induction q with
  | zero =>
    intro j fuel hj
    have e : j = 161 := by omega
    subst e
    rw [Nat.zero_add]
    unfold f_M_text_183
    rw [if_pos (show (161 : Int32) ≤ iI ((161 : Nat) : Int) by decide)]
  | succ q ih =>
    intro j fuel hj
    rw [show q + 1 + (fuel + 1) = (q + (fuel + 1)) + 1 by omega]
    unfold f_M_text_183
    rw [if_neg (show ¬ (161 : Int32) ≤ iI (j : Int) from fun z => absurd ((iI_le (a := 161) (by omega) (by omega)).mp z) (by omega)), gR_at (M.sw _ _) m2, gR_at (M.sw _ _) m18, aI_iI (z := (j : Int)) ((M.sw _ _).ro (i := 18) (n := 644) m18) (by omega) (by omega) (by omega), Int.toNat_natCast, h_i_sw, if_neg n182, show (161 : Int32) = iI 161 from rfl, iI_mul, iI_add, uI_iI (z := 161 * (c : Int) + j) ((M.sw _ _).ro (i := 2) (n := 644) m2) (by omega) (by omega) (by omega), show (161 * (c : Int) + (j : Int)).toNat = 161 * c + j by omega, s_w_i, nwT_u, bn_i, show (1 : Int32) = iI 1 from rfl, iI_add, show (j : Int) + 1 = ((j + 1 : Nat) : Int) by omega]
    exact ih (j + 1) fuel (by omega)
theorem hW_self (A : Nat → Nat) (m : Nat) (h : hS) : hW A m h (h_i h (A 18)) (h_i h (A 19)) (h_i h m) = h := by
  unfold hW
  rw [s_w_self, s_w_self, s_w_self]
theorem swm_c (A : Nat → Nat) (m : Nat) (h : hS) (U : Nat → Int32) : chM A m h (s_w h m U) := ⟨⟨rfl, rfl, rfl, rfl, rfl⟩, fun q h1 _ => ⟨by rw [h_i_sw, if_neg h1], rfl⟩⟩
/-- the tape and the place of the fault are written, and fields that are no part of the state -/
theorem RM.fld (X : RM ρ A m h F) {T' : Nat × (Nat → Int)} {z : Int} (hU : ∀ k, k ∉ scF → k ≠ 20 → k ≠ 29 → U k = h_i h m k) (h20 : U 20 = iI T'.1) (h29 : U 29 = iI z) (hl : T'.1 ≤ 600) (ht : ∀ i, i < T'.1 → h_i h (A 17) i = iI (T'.2 i)) : RM ρ A m (s_w h m U) (F.1, F.2.1, T', z) := by
  have c := swm_c A m h U
  have ho := (X.ch c).2.2.2.1
  have ia : ∀ i k n, (i, k, n) ∈ mrows → k ≠ 1 → h_i (s_w h m U) (A i) = h_i h (A i) := fun i k n hi hk => by rw [h_i_sw, if_neg (X.mne hi hk)]
  have fm : ∀ k, k ∉ scF → k ≠ 20 → k ≠ 29 → h_i (s_w h m U) m k = h_i h m k := fun k k1 k2 k3 => by rw [h_i_sw, if_pos rfl, hU k k1 k2 k3]
  obtain ⟨rt, v⟩ := X.2.2.2.2.1
  exact X.put c ⟨fm 13 (by decide) (by decide) (by decide), fm 14 (by decide) (by decide) (by decide)⟩ ⟨rt.cg (ia 2 50 644 (by decide) (by decide)) (ia 42 50 25760 (by decide) (by decide)) (ia 44 50 8 (by decide) (by decide)) rfl (ia 3 50 3 (by decide) (by decide)) (fm 41 (by decide) (by decide) (by decide)) (fm 43 (by decide) (by decide) (by decide)) ho, v⟩ (X.ri.cg (ia 52 50 644 (by decide) (by decide)) (ia 53 50 25760 (by decide) (by decide)) (ia 54 50 8 (by decide) (by decide)) rfl (ia 55 50 3 (by decide) (by decide)) (fm 49 (by decide) (by decide) (by decide)) (fm 50 (by decide) (by decide) (by decide)) (fm 51 (by decide) (by decide) (by decide)) ho) ⟨by rw [h_i_sw, if_pos rfl]; exact h20, hl, fun i hi => by rw [ia 17 50 600 (by decide) (by decide)]; exact ht i hi⟩ (by rw [h_i_sw, if_pos rfl]; exact h29)
theorem hW_f (M : MO A m h) (hV : ∀ j, j ∉ scF → V j = h_i h m j) : frM A m h (hW A m h R P V) := by
  refine ⟨⟨rfl, rfl, rfl, rfl, rfl⟩, fun q h1 h2 => ?_, fun k hk => ?_, fun _ _ => rfl⟩
  · unfold hW
    rw [h_i_sw, if_neg h2, h_i_sw, if_neg (h1 19 (by decide)), h_i_sw, if_neg (h1 18 (by decide))]
  · unfold hW
    rw [h_i_sw, if_pos rfl]
    exact hV k hk
/-- a text is refused -/
theorem flt147 (N : Nat) (X : RM ρ A m h F) {f : Int} {p : Nat} (hf : 1 ≤ f ∧ f ≤ 4) (h27 : h_i h m 27 = iI f) (h28 : h_i h m 28 = iI p) (h1 : h_i h m 1 = 0) (x1 : Int32) : RX ρ A m h (iI f) (rfS F.1 0, F.2.1, F.2.2.1, (p : Int)) 0 (f_M_text_147 N h m x1) := by
  have M := X.1.1
  have X2 : RM ρ A m (s_i h m 29 (iI p)) (F.1, F.2.1, F.2.2.1, (p : Int)) := by
    have := X.fld (U := upd (h_i h m) 29 (iI p)) (T' := F.2.2.1) (z := (p : Int)) (fun k _ _ k3 => upd_o k3) (by rw [upd_o (by decide)]; exact X.2.2.2.2.2.2.1.1) (upd_a _ _ _) X.2.2.2.2.2.2.1.2.1 X.2.2.2.2.2.2.1.2.2
    rw [← s_w_i, s_w_self] at this
    exact this
  obtain ⟨g, b1, b2, b3, b4⟩ := refM_is N X2 (k := 0) (by omega)
  have M2 := X2.1.1
  have r3 := M2.ro (i := 3) (n := 3) (by decide)
  have eg : g = s_i (s_i h m 29 (iI p)) (A 3) 0 (h_i (s_i h m 29 (iI p)) (A 3) 0 + 1) := by
    unfold f_M_refuse at b1
    rw [gR_at M2 (i := 3) (k := 50) (n := 3) (by decide), aI_iI (z := ((0 : Nat) : Int)) r3 (by omega) (by omega) (by omega), uI_iI (z := ((0 : Nat) : Int)) r3 (by omega) (by omega) (by omega), Int.toNat_natCast] at b1
    injection b1 with b1
    injection b1 with _ b1
    exact b1.symm
  have c2 : chM A m h (s_i h m 29 (iI p)) := chM.rf.f 29 _
  refine X.x (c2.trans b2) b3 ?_ (by rw [b4, h_i_si, if_pos rfl, upd_o (by decide)]; exact h1)
  unfold f_M_text_147
  have z0 : (0 : Int32) = iI ((0 : Nat) : Int) := rfl
  rw [gI_at M, h27, if_neg (show ¬ iI f = (0 : Int32) from fun z => by have := (iI_eq (b := 0) (by omega) (by omega)).mp z; omega), gI_at M, h28, pI_at M, gR_at M2 (i := 3) (k := 50) (n := 3) (by decide), z0, aI_iI (z := ((0 : Nat) : Int)) r3 (by omega) (by omega) (by omega), uI_iI (z := ((0 : Nat) : Int)) r3 (by omega) (by omega) (by omega), Int.toNat_natCast, ← eg, gI_at b3.1.1, b4, h_i_si, if_pos rfl, upd_o (by decide), h27]
/-- a text begins -/
theorem text_0M (N : Nat) (hN : 30000 ≤ N) (X : RM ρ A m h F) {c : Int} (hc : 0 ≤ c ∧ c ≤ 3) {n : Nat} (hn : n ≤ F.2.2.1.1) (hB : ∀ i, i < F.2.2.1.1 → 0 ≤ F.2.2.1.2 i ∧ F.2.2.1.2 i ≤ 255) : ∃ h0 R P U, f_M_text N h m (iI c) (iI n) = f_M_text_73 N N (hW A m h0 R P U) m (iI c) ∧ RM ρ A m h0 (F.1, F.2.1, (0, F.2.2.1.2), -1) ∧ chM A m h h0 ∧ TQ A m h0 F.2.2.1.2 n ∧ tokR F.2.2.1.2 U (zTok F.2.2.1.2 n 0) ∧ U 27 = 0 ∧ U 22 = iI n ∧ R 0 = iI ((0 : Nat) : Int) ∧ (∀ j, j ∉ tkF → U j = h_i h0 m j) ∧ h_i h0 m 1 = 0 := by
  have M := X.1.1
  have h6 := X.2.2.2.2.2.2.1.2.1
  obtain ⟨U0, hU0⟩ : ∃ U0, U0 = upd (upd (upd (upd (upd (upd (h_i h m) 1 0) 20 0) 22 (iI n)) 21 0) 27 0) 29 (-1) := ⟨_, rfl⟩
  have X0 : RM ρ A m (s_w h m U0) (F.1, F.2.1, (0, F.2.2.1.2), -1) := X.fld (T' := (0, F.2.2.1.2)) (z := -1) (fun k k1 k2 k3 => by
    have ne : ∀ j, j ∈ scF → k ≠ j := fun j hj e => k1 (by rw [e]; exact hj)
    rw [hU0, upd_o k3, upd_o (ne 27 (by decide)), upd_o (ne 21 (by decide)), upd_o (ne 22 (by decide)), upd_o k2, upd_o (ne 1 (by decide))]) (by rw [hU0, upd_o (by decide), upd_o (by decide), upd_o (by decide), upd_o (by decide), upd_a]; rfl) (by rw [hU0, upd_a]; decide) (by omega) (fun i hi => absurd hi (Nat.not_lt_zero _))
  have M0 := X0.1.1
  have T0 : TQ A m (s_w h m U0) F.2.2.1.2 n := ⟨M0, by omega, fun i hi => by rw [h_i_sw, if_neg (X.mne (by decide : (17, 50, 600) ∈ mrows) (by decide))]; exact X.2.2.2.2.2.2.1.2.2 i (by omega), fun i hi => hB i (by omega)⟩
  have im0 : h_i (s_w h m U0) m = U0 := by rw [h_i_sw, if_pos rfl]
  have u21 : U0 21 = iI ((0 : Nat) : Int) := by rw [hU0, upd_o (by decide), upd_o (by decide), upd_a]; rfl
  have u22 : U0 22 = iI n := by rw [hU0, upd_o (by decide), upd_o (by decide), upd_o (by decide), upd_a]
  have u27 : U0 27 = 0 := by rw [hU0, upd_o (by decide), upd_a]
  obtain ⟨V, v1, v2, v3⟩ := stepOn_u N (by omega) (T0.w (upd (h_i (s_w h m U0) (A 18)) 0 0) (h_i (s_w h m U0) (A 19))) (Nat.zero_le _) U0 u21 u22
  have v1' : f_M_stepOn N (hW A m (s_w h m U0) (upd (h_i (s_w h m U0) (A 18)) 0 0) (h_i (s_w h m U0) (A 19)) U0) m = some ((), hW A m (s_w h m U0) (upd (h_i (s_w h m U0) (A 18)) 0 0) (h_i (s_w h m U0) (A 19)) V) := v1
  refine ⟨s_w h m U0, upd (h_i (s_w h m U0) (A 18)) 0 0, h_i (s_w h m U0) (A 19), V, ?_, X0, swm_c A m h U0, T0, v3, by rw [v2 27 (by decide), u27], by rw [v2 22 (by decide), u22], upd_a _ _ _, fun j hj => by rw [v2 j hj, im0], ?_⟩
  · have hs : s_w h m U0 = hW A m (s_w h m U0) (h_i (s_w h m U0) (A 18)) (h_i (s_w h m U0) (A 19)) U0 := by
      have := hW_self A m (s_w h m U0)
      rw [im0] at this
      exact this.symm
    have ci := isCost_y N (s_i h m 1 0) m hc
    have e20 : h_i (s_i h m 1 0) m 20 = iI F.2.2.1.1 := by rw [h_i_si, if_pos rfl, upd_o (by decide)]; exact X.2.2.2.2.2.2.1.1
    have M1 : MO A m (s_i h m 1 0) := M
    have w1 : s_i h m 1 0 = s_w h m (upd (h_i h m) 1 0) := by rw [← s_w_i, s_w_self]
    unfold f_M_text
    rw [pI_at M, cv_at M1, isCost_y N _ _ hc, cl_s, if_neg (by decide), if_neg (show ¬ iI (n : Int) < (0 : Int32) from fun z => by have := (iI_lt (b := 0) (by omega) (by omega)).mp z; omega), gI_at M1, e20, if_pos ((iI_le (by omega) (by omega)).mpr (by omega)), w1, pI_u M, pI_u M, pI_u M, pI_u M, pI_u M, ← hU0, gR_at M0 (i := 18) (k := 50) (n := 644) (by decide)]
    conv => lhs; rw [hs]
    rw [uI_180 M0, cv_w M0, v1', cl_s]
  · rw [im0, hU0, upd_o (by decide), upd_o (by decide), upd_o (by decide), upd_o (by decide), upd_o (by decide), upd_a]
end
