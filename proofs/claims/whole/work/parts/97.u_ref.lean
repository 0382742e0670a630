/-! THE REFERENCE: onTop -/
def clz (B : Nat → Int32) (j p : Nat) : Int32 := if p < j then 0 else B p
theorem clz_u (B : Nat → Int32) (j : Nat) : upd (clz B j) j 0 = clz B (j + 1) := by
  funext p
  unfold upd clz
  by_cases e : p = j
  · rw [if_pos e, if_pos (by omega)]
  · rw [if_neg e]
    by_cases q : p < j
    · rw [if_pos q, if_pos (by omega)]
    · rw [if_neg q, if_neg (by omega)]
theorem clz_0 (B : Nat → Int32) : clz B 0 = B := by
  funext p
  unfold clz
  rw [if_neg (by omega)]
section
variable {ρ : Nat → Nat} {A : Nat → Nat} {m : Nat} {h g u : hS} {F F' : FT}
/-- the tables laid so far -/
def LD (A : Nat → Nat) (h : hS) (F : FT) : Prop := ∀ k, k < 4 → ∃ l : Int, h_i h (A 16) k = iI l ∧ (l = -1 ∨ ((0 ≤ l ∧ l < 1000) ∧ onB A h (h_i h) l (zC F.1.1 k)))
theorem frM.w8 (hA : A 8 ≠ m) (T : Nat → Int32) : frM A m h (s_w h (A 8) T) := by
  refine ⟨⟨rfl, rfl, rfl, rfl, rfl⟩, fun q h1 _ => by rw [h_i_sw, if_neg (h1 8 (by decide))], fun k _ => ?_, fun _ _ => rfl⟩
  rw [h_i_sw, if_neg (Ne.symm hA)]
/-- from the cleared row on -/
def ot19 (N : Nat) (h : hS) (m : Nat) (x1 : Int32) : Option (Int32 × hS) := gR h (some m) 0 2 fun v3 => nn v3 fun q4 => cv h (some m) 0 (fun a => f_M_names N h a q4) fun _ h6 => gR h6 (some m) 0 42 fun v7 => nn v7 fun q8 => cv h6 (some m) 0 (fun a => f_M_names N h6 a q8) fun _ h10 => gR h10 (some m) 0 52 fun v11 => nn v11 fun q12 => cv h10 (some m) 0 (fun a => f_M_names N h10 a q12) fun _ h14 => gR h14 (some m) 0 53 fun v15 => nn v15 fun q16 => cv h14 (some m) 0 (fun a => f_M_names N h14 a q16) fun _ h18 => f_M_onTop_75 N N h18 m x1 (0 : Int32)
theorem ontop19 (N : Nat) (M : MO A m h) (x1 : Int32) : ∀ (q j fuel : Nat), j + q = 1000 → f_M_onTop_19 N (q + (fuel + 1)) (s_w h (A 8) (clz (h_i h (A 8)) j)) m x1 (iI j) = ot19 N (s_w h (A 8) (clz (h_i h (A 8)) 1000)) m x1 := by
  have m8 : (8, 53, 1000) ∈ mrows := by decide
  have r8 := M.2.1 (8, 53, 1000) (by decide)
  have ln : ∀ {β : Type} (B : Nat → Int32) (f : Int32 → Option β), lnA (s_w h (A 8) B) 53 (some (A 8)) f = f (iI ((1000 : Nat) : Int)) := fun {β} B f => lnR (h := s_w h (A 8) B) r8.2.1 r8.2.2
  intro q
  induction q with
  | zero =>
    intro j fuel hj
    have e : j = 1000 := by omega
    subst e
    rw [Nat.zero_add]
    unfold f_M_onTop_19 ot19
    rw [gR_at (M.sw _ _) m8, ln, if_pos (Int32.le_refl _)]
  | succ q ih =>
    intro j fuel hj
    rw [show q + 1 + (fuel + 1) = (q + (fuel + 1)) + 1 by omega]
    unfold f_M_onTop_19
    rw [gR_at (M.sw _ _) m8, ln, if_neg (fun z => absurd ((iI_le (by omega) (by omega)).mp z) (by omega)), gR_at (M.sw _ _) m8, uZ_0 r8.2.1 r8.2.2 (by omega), clz_u, bn_i, show iI (j : Int) + (1 : Int32) = iI ((j + 1 : Nat) : Int) by rw [show (1 : Int32) = iI 1 from rfl, iI_add]; rfl]
    exact ih (j + 1) fuel (by omega)
theorem ontop75 (N : Nat) (M : MO A m h) (x1 : Int32) {ls : Nat → Int} (hl : ∀ k, k < 4 → h_i h (A 16) k = iI (ls k) ∧ (ls k = -1 ∨ (0 ≤ ls k ∧ ls k < 1000))) : ∀ (q j fuel : Nat) (B : Nat → Int32), j + q = 4 → b01 B → ∃ B', f_M_onTop_75 N (q + (fuel + 1)) (s_w h (A 8) B) m x1 (iI j) = f_M_onTop_110 N N (s_w h (A 8) B') m x1 (0 : Int32) ∧ b01 B' ∧ ∀ t, t < 1000 → (B' t = 1 ↔ (B t = 1 ∨ ∃ k, j ≤ k ∧ k < 4 ∧ ls k = (t : Int))) := by
  have m8 : (8, 53, 1000) ∈ mrows := by decide
  have m16 : (16, 50, 4) ∈ mrows := by decide
  have r8 := M.2.1 (8, 53, 1000) (by decide)
  have n168 : A 16 ≠ A 8 := M.nn m16 m8 (by decide)
  intro q
  induction q with
  | zero =>
    intro j fuel B hj hB
    have e : j = 4 := by omega
    subst e
    refine ⟨B, ?_, hB, fun t _ => ⟨fun z => Or.inl z, fun z => by rcases z with z | ⟨k, k1, k2, _⟩; exact z; omega⟩⟩
    rw [Nat.zero_add]
    unfold f_M_onTop_75
    rw [if_pos (show (4 : Int32) ≤ iI ((4 : Nat) : Int) by decide)]
  | succ q ih =>
    intro j fuel B hj hB
    obtain ⟨l1, l2⟩ := hl j (by omega)
    have e1 : iI (j : Int) + (1 : Int32) = iI ((j + 1 : Nat) : Int) := by rw [show (1 : Int32) = iI 1 from rfl, iI_add]; rfl
    have st : f_M_onTop_75 N ((q + (fuel + 1)) + 1) (s_w h (A 8) B) m x1 (iI j) = if iI (ls j) = (-1 : Int32) then f_M_onTop_75 N (q + (fuel + 1)) (s_w h (A 8) B) m x1 (iI ((j + 1 : Nat) : Int)) else (gR (s_w h (A 8) B) (some m) 0 8 fun v3 => gR (s_w h (A 8) B) (some m) 0 16 fun v4 => aI (s_w h (A 8) B) 50 v4 (iI j) fun v5 => uZ (s_w h (A 8) B) v3 v5 (1 : Int32) fun h6 => f_M_onTop_75 N (q + (fuel + 1)) h6 m x1 (iI ((j + 1 : Nat) : Int))) := by
      conv => lhs; unfold f_M_onTop_75
      unfold f_M_onTop_102
      rw [if_neg (show ¬ (4 : Int32) ≤ iI (j : Int) from fun z => absurd ((iI_le (a := 4) (by omega) (by omega)).mp z) (by omega)), gR_at (M.sw _ _) m16, aI_iI (z := (j : Int)) ((M.sw _ _).ro (i := 16) (n := 4) m16) (by omega) (by omega) (by omega), Int.toNat_natCast, h_i_sw, if_neg n168, l1]
      simp only [bn_i, e1]
    rw [show q + 1 + (fuel + 1) = (q + (fuel + 1)) + 1 by omega, st]
    by_cases q1 : ls j = -1
    · obtain ⟨B', b1, b2, b3⟩ := ih (j + 1) fuel B (by omega) hB
      refine ⟨B', by rw [if_pos (show iI (ls j) = (-1 : Int32) by rw [q1]; decide)]; exact b1, b2, fun t ht => ?_⟩
      rw [b3 t ht]
      constructor
      · rintro (z | ⟨k, k1, k2, k3⟩)
        · exact Or.inl z
        · exact Or.inr ⟨k, by omega, k2, k3⟩
      · rintro (z | ⟨k, k1, k2, k3⟩)
        · exact Or.inl z
        · by_cases e : k = j
          · subst e; omega
          · exact Or.inr ⟨k, by omega, k2, k3⟩
    · have r := l2.resolve_left q1
      obtain ⟨B', b1, b2, b3⟩ := ih (j + 1) fuel (upd B (ls j).toNat 1) (by omega) (b01_1 hB _)
      refine ⟨B', ?_, b2, fun t ht => ?_⟩
      · rw [if_neg (show ¬ iI (ls j) = (-1 : Int32) from fun z => q1 ((iI_eq (b := -1) (by omega) (by omega)).mp z)), gR_at (M.sw _ _) m8, gR_at (M.sw _ _) m16, aI_iI (z := (j : Int)) ((M.sw _ _).ro (i := 16) (n := 4) m16) (by omega) (by omega) (by omega), Int.toNat_natCast, h_i_sw, if_neg n168, l1, show iI (ls j) = iI (((ls j).toNat : Nat) : Int) by congr 1; omega, uZ_1 r8.2.1 r8.2.2 (by omega)]
        exact b1
      · rw [b3 t ht]
        constructor
        · rintro (z | ⟨k, k1, k2, k3⟩)
          · unfold upd at z
            by_cases e : t = (ls j).toNat
            · exact Or.inr ⟨j, Nat.le_refl _, by omega, by omega⟩
            · rw [if_neg e] at z; exact Or.inl z
          · exact Or.inr ⟨k, by omega, k2, k3⟩
        · rintro (z | ⟨k, k1, k2, k3⟩)
          · left
            unfold upd
            split
            · rfl
            · exact z
          · by_cases e : k = j
            · subst e
              left
              unfold upd
              rw [if_pos (by omega)]
            · exact Or.inr ⟨k, by omega, k2, k3⟩
/-- the first number that isn't named -/
theorem ontop110 (N : Nat) (M : MO A m h) (x1 : Int32) {B : Nat → Int32} {τ : Nat} (hτ : τ < 1000) (hz : B τ = 0) : ∀ (q j fuel : Nat), j + q = τ → (∀ t, j ≤ t → t < τ → B t = 1) → f_M_onTop_110 N (q + (fuel + 1)) (s_w h (A 8) B) m x1 (iI j) = (gR (s_w h (A 8) B) (some m) 0 7 fun v3 => aR (s_w h (A 8) B) 60 v3 (iI τ) fun v4 => if v4 = none then (gR (s_w h (A 8) B) (some m) 0 7 fun v5 => nwA (s_w h (A 8) B) 50 (10003 : Int32) fun q6 h7 => f_M_onTop_144 N h7 m x1 (iI τ) v5 (iI τ) (some q6)) else (f_M_onTop_145 N (s_w h (A 8) B) m x1 (iI τ))) := by
  have m8 : (8, 53, 1000) ∈ mrows := by decide
  have r8 := M.2.1 (8, 53, 1000) (by decide)
  intro q
  induction q with
  | zero =>
    intro j fuel hj _
    have e : j = τ := by omega
    subst e
    rw [Nat.zero_add]
    unfold f_M_onTop_110
    rw [gR_at (M.sw _ _) m8, aZ_i (h := s_w h (A 8) B) r8.2.1 r8.2.2 hτ, h_i_sw, if_pos rfl, hz, if_pos rfl]
  | succ q ih =>
    intro j fuel hj hB
    rw [show q + 1 + (fuel + 1) = (q + (fuel + 1)) + 1 by omega]
    conv => lhs; unfold f_M_onTop_110
    rw [gR_at (M.sw _ _) m8, aZ_i (h := s_w h (A 8) B) r8.2.1 r8.2.2 (show j < 1000 by omega), h_i_sw, if_pos rfl, hB j (Nat.le_refl _) (by omega), if_neg (by decide), bn_i, show iI (j : Int) + (1 : Int32) = iI ((j + 1 : Nat) : Int) by rw [show (1 : Int32) = iI 1 from rfl, iI_add]; rfl]
    exact ih (j + 1) fuel (by omega) (fun t h1 h2 => hB t (by omega) h2)
theorem firstz {B : Nat → Int32} (hB : b01 B) : ∀ n, n ≤ 1000 → (¬ ∀ t, t < n → B t = 1) → ∃ τ, τ < n ∧ B τ = 0 ∧ ∀ t, t < τ → B t = 1 := by
  intro n hn hq
  obtain ⟨j, j1, j2, j3⟩ := firstbad n hq
  exact ⟨j, j1, (hB j (by omega)).resolve_right j3, j2⟩
/-- rows as names reads them -/
theorem RM.rv (X : RM ρ A m h F) : (∀ s, s < 4 → RVl h (A 2) (161 * s)) ∧ (∀ s, s < 160 → RVl h (A 42) (161 * s)) ∧ (∀ s, s < 4 → RVl h (A 52) (161 * s)) ∧ ∀ s, s < 160 → RVl h (A 53) (161 * s) := by
  have two : ∀ {r0 rp rx rv rs : Nat} {fa fn : Int32} {S : StT}, RT0 A h r0 rp rx rv rs fa fn S → vS S → (∀ s, s < 4 → RVl h r0 (161 * s)) ∧ ∀ s, s < 160 → RVl h rp (161 * s) := fun {r0 rp rx rv rs fa fn S} R v => by
    obtain ⟨a1, a2, a3, a4, _⟩ := R
    have bk : ∀ d, d ≤ S.2.1 → ∀ c, c < 4 → vC (bkC S.1 S.2.2.1 S.2.1 d c) := by
      intro d
      induction d with
      | zero => intro _ c hc; exact v.1 c hc
      | succ d ih =>
        intro hd c hc
        rw [bkC]
        unfold upC
        by_cases e : c = (S.2.2.1 (S.2.1 - 1 - d)).1
        · rw [if_pos e]; exact (v.2.2.1 _ (by omega)).2
        · rw [if_neg e]; exact ih (by omega) c hc
    refine ⟨fun s hs => (a1 s hs).rv (v.1 s hs).arg, fun s hs => ?_⟩
    have es : 161 * s = 644 * (s / 4) + 161 * (s % 4) := by omega
    rw [es]
    by_cases e : s / 4 < S.2.1
    · exact (a3 (s / 4) e (s % 4) (by omega)).rv (bk _ (by omega) _ (by omega)).arg
    · exact RVl.z (a4 (s / 4) (by omega) (by omega) (s % 4) (by omega))
  obtain ⟨b1, b2⟩ := two X.2.2.2.2.1.1 X.2.2.2.2.1.2
  refine ⟨b1, b2, ?_⟩
  have ri := X.ri
  revert ri
  cases F.2.1 with
  | none =>
    rintro ⟨_, i2, i3⟩
    refine ⟨fun s hs => RVl.z (i2 s hs), fun s hs => ?_⟩
    rw [show 161 * s = 644 * (s / 4) + 161 * (s % 4) by omega]
    exact RVl.z (i3 (s / 4) (by omega) (s % 4) (by omega))
  | some S =>
    rintro ⟨_, i2, i3⟩
    exact two i2 i3
/-- what a slot names is named by a state -/
theorem RT0.slot {r0 rp rx rv rs : Nat} {fa fn : Int32} {S : StT} (R : RT0 A h r0 rp rx rv rs fa fn S) {t : Nat} : ((∃ j, j < 4 ∧ nm1 h r0 (161 * j) t) ↔ nmd h r0 0 t) ∧ ((∃ j, j < 160 ∧ nm1 h rp (161 * j) t) ↔ ∃ k, k < S.2.1 ∧ nmd h rp (644 * k) t) := by
  obtain ⟨a1, a2, a3, a4, _⟩ := R
  constructor
  · constructor
    · rintro ⟨j, j1, j2⟩; exact nm1_nmd j1 (by rw [Nat.zero_add]; exact j2)
    · rintro ⟨c, hc, i, i1, i2, i3, i4⟩
      rw [Nat.zero_add] at i2 i3 i4
      exact ⟨c, hc, i, i1, i2, i3, i4⟩
  · constructor
    · rintro ⟨j, j1, j2⟩
      have es : 161 * j = 644 * (j / 4) + 161 * (j % 4) := by omega
      rw [es] at j2
      by_cases e : j / 4 < S.2.1
      · exact ⟨j / 4, e, nm1_nmd (by omega) j2⟩
      · exfalso
        obtain ⟨i, _, i2, _⟩ := j2
        rw [a4 (j / 4) (by omega) (by omega) (j % 4) (by omega)] at i2
        have : (0 : Int32).toInt = 0 := rfl
        omega
    · rintro ⟨k, k1, c, hc, i, i1, i2, i3, i4⟩
      have h40 := a2.2.1
      refine ⟨4 * k + c, by omega, ?_⟩
      rw [show 161 * (4 * k + c) = 644 * k + 161 * c by omega]
      exact ⟨i, i1, i2, i3, i4⟩
end
