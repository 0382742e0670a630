/-! CHAINS ON THE BENCH -/
theorem zK_z : zK (fun _ => 0) = [] := (srt_zK (L := []) (Z := fun _ => 0) trivial (fun k _ _ => Int.le_refl _) (fun φ => by
  rw [zF_null (zL (fun _ => 0)) (fun e he h0 => by
    obtain ⟨j, _, _, he2⟩ := zL_mem he
    rw [he2] at h0
    exact absurd rfl h0)]
  rfl)).symm
theorem zLeast_z : zLeast (fun _ => 0) = 0 := by
  obtain ⟨x, hx⟩ := zLeast_at (fun _ => 0)
  rw [hx, zVal_form, ← zK_F, zK_z]
  simp [zF]
theorem CR.z {ρ : Nat → Nat} {l : Nat} {h : hS} {c : Nat} (C : CR ρ l h c [] 0 0) : CZ ρ l h c (fun _ => 0) := ⟨by rw [zK_z, zLeast_z]; exact C, zInv_0⟩
def RB : Nat → Prop := fun q => 1 ≤ q ∧ q ≤ 5
theorem RW_B (q : Nat) (h : RW q) : RB q := by unfold RW at h; unfold RB; omega
section
variable {ρ : Nat → Nat} {h : hS} {b ba ad : Nat}
theorem BX.k (B : BX ρ h b ba ad) : h_k h b = 1 + 1 := by obtain ⟨w, s, lw, ls, B, _⟩ := B; exact B.k
/-- the bench's own object and curves stay, where nothing of it is touched -/
theorem BX.keep (B : BX ρ h b ba ad) {ρ' : Nat → Nat} {g : hS} {R : Nat → Prop} (t : tr ρ h R ρ' g) (hR : ∀ q, RB q → ¬ R q) : BX ρ' g b ba ad ∧ brs g b = brs h b := by
  obtain ⟨w, s, lw, ls, B, c1, c2, c3, c4⟩ := B
  have hb := B.2.2
  have B1 := B.keep t (hR 1 (by unfold RB; omega))
  obtain ⟨d1, e1⟩ := c1.keep t (hR lw (by unfold RB; omega))
  obtain ⟨d2, e2⟩ := c2.keep t (hR ls (by unfold RB; omega))
  obtain ⟨d3, e3⟩ := c3.keep t (hR 4 (by unfold RB; omega))
  obtain ⟨d4, e4⟩ := c4.keep t (hR 5 (by unfold RB; omega))
  exact ⟨⟨w, s, lw, ls, B1, d1, d2, d3, d4⟩, by rw [B1.rs, B.rs, e1, e2, e3, e4]⟩
theorem BS.keep {Z : Nat → Int} (B : BS ρ h b ba ad Z) {ρ' : Nat → Nat} {g : hS} {R : Nat → Prop} (t : tr ρ h R ρ' g) (hR : ∀ q, RB q → ¬ R q) : BS ρ' g b ba ad Z := by
  obtain ⟨w, s, lw, ls, B, c1, c2, c3, c4⟩ := B
  have hb := B.2.2
  exact ⟨w, s, lw, ls, B.keep t (hR 1 (by unfold RB; omega)), c1.keep t (hR lw (by unfold RB; omega)), (c2.keep t (hR ls (by unfold RB; omega))).1, (c3.keep t (hR 4 (by unfold RB; omega))).1, (c4.keep t (hR 5 (by unfold RB; omega))).1⟩
theorem BS.congr {Z Y : Nat → Int} (B : BS ρ h b ba ad Z) (e : tEq Z Y) : BS ρ h b ba ad Y := by
  obtain ⟨w, s, lw, ls, B, c1, c2⟩ := B
  exact ⟨w, s, lw, ls, B, c1.congr e, c2⟩
theorem BO.rw {w s lw ls : Nat} (B : BO ρ h b ba ad w s lw ls) (q : Nat) (hq : rg lw q) : RW q := by
  have : q = lw := hq
  unfold RW; rcases B.2.2 with ⟨z, _⟩ | ⟨z, _⟩ <;> omega
theorem startAnew_is (N : Nat) (B : BX ρ h b ba ad) : ∃ ρ' g, f_Bench_startAnew N h b = some ((), g) ∧ tr ρ h RW ρ' g ∧ hm g + brs g b ≤ hm h + brs h b ∧ BS ρ' g b ba ad (fun _ => 0) := by
  obtain ⟨w, s, lw, ls, B, c1, c2, c3, c4⟩ := B
  have hne := B.ne
  obtain ⟨ρ', g, e1, e2, e3, e4, e5⟩ := cclear_is N c1 (room := 0) (by omega)
  have B1 := B.keep e2 (fun q => hne.2.1 q.symm)
  obtain ⟨d2, k2⟩ := c2.keep e2 (fun q => hne.1 q.symm)
  obtain ⟨d3, k3⟩ := c3.keep e2 (fun q => hne.2.2.2.1 q.symm)
  obtain ⟨d4, k4⟩ := c4.keep e2 (fun q => hne.2.2.2.2.2.1 q.symm)
  refine ⟨ρ', g, ?_, e2.mono B.rw, ?_, ⟨w, s, lw, ls, B1, e3.z, d2, d3, d4⟩⟩
  · obtain ⟨r, q1, q2⟩ := c1
    unfold f_Bench_startAnew f_Bench_startAnew_8
    rw [gR_k B.k, B.2.1.1, cv_k (show h_k h w = 3 + 1 from q1.1), show (0 : Int32) = iI ((0 : Nat) : Int) from rfl, e1, cl_s]
  · rw [B1.rs, B.rs, k2, k3, k4]; omega
/-- the work becomes as another curve -/
theorem take_work (N : Nat) (B : BX ρ h b ba ad) {l o : Nat} {Z : Nat → Int} (O : CZ ρ l h o Z) (hl : ¬ RW l) : ∃ ρ' g w, h_r h b 0 = some w ∧ h_k h w = 3 + 1 ∧ f_Curve_take N h w (some o) = some ((), g) ∧ tr ρ h RW ρ' g ∧ hm g + brs g b ≤ hm h + brs h b ∧ BS ρ' g b ba ad Z := by
  obtain ⟨w, s, lw, ls, B, c1, c2, c3, c4⟩ := B
  have hne := B.ne
  obtain ⟨ρ', g, e1, e2, e3, e4, e5⟩ := ctake_is N c1 O.1 (fun q => hl (B.rw l q))
  have B1 := B.keep e2 (fun q => hne.2.1 q.symm)
  obtain ⟨d2, k2⟩ := c2.keep e2 (fun q => hne.1 q.symm)
  obtain ⟨d3, k3⟩ := c3.keep e2 (fun q => hne.2.2.2.1 q.symm)
  obtain ⟨d4, k4⟩ := c4.keep e2 (fun q => hne.2.2.2.2.2.1 q.symm)
  have hk : h_k h w = 3 + 1 := by obtain ⟨r, q1, q2⟩ := c1; exact q1.1
  refine ⟨ρ', g, w, B.2.1.1, hk, e1, e2.mono B.rw, ?_, ⟨w, s, lw, ls, B1, ⟨e3, O.2⟩, d2, d3, d4⟩⟩
  rw [B1.rs, B.rs, k2, k3, k4]; omega
theorem startWith_is (N : Nat) (B : BX ρ h b ba ad) {l o : Nat} {Z : Nat → Int} (O : CZ ρ l h o Z) (hl : ¬ RW l) : ∃ ρ' g, f_Bench_startWith N h b (some o) = some ((), g) ∧ tr ρ h RW ρ' g ∧ hm g + brs g b ≤ hm h + brs h b ∧ BS ρ' g b ba ad Z := by
  obtain ⟨ρ', g, w, a1, a2, a3, a4, a5, a6⟩ := take_work N B O hl
  refine ⟨ρ', g, ?_, a4, a5, a6⟩
  unfold f_Bench_startWith f_Bench_startWith_8
  rw [gR_k B.k, a1, cv_k a2, a3, cl_s]
/-- another curve becomes as the work -/
theorem take_from (N : Nat) {Z : Nat → Int} (B : BS ρ h b ba ad Z) {l o : Nat} (O : CB ρ l h o) (hl : ¬ RW l) : ∃ ρ' g w, h_r h b 0 = some w ∧ h_k h o = 3 + 1 ∧ f_Curve_take N h o (some w) = some ((), g) ∧ tr ρ h (rg l) ρ' g ∧ hm g + rst (capR g o) ≤ hm h + rst (capR h o) ∧ CZ ρ' l g o Z := by
  obtain ⟨w, s, lw, ls, B, c1, c2, c3, c4⟩ := B
  obtain ⟨ρ', g, e1, e2, e3, e4, e5⟩ := ctake_is N O c1.1 (fun q => hl (B.rw l q.symm))
  have hk : h_k h o = 3 + 1 := by obtain ⟨r, q1, q2⟩ := O; exact q1.1
  exact ⟨ρ', g, w, B.2.1.1, hk, e1, e2, e5, ⟨e3, c1.2⟩⟩
end
theorem okS_go {p : Nat → Int × Int × Int} {Y : Nat → Nat → Int} {lo : Int} {j : Nat} (h : ¬ (j : Int) = lo) : okS p Y lo j ↔ stOk (zT p Y lo j) (Y j) (p j).1 (p j).2.1 (p j).2.2 := by
  unfold okS
  rw [zT_go h]
  exact ⟨fun q => q.resolve_left h, Or.inr⟩
section
variable {b ba ad l c n : Nat} {p p' : Nat → Int × Int × Int} {Y : Nat → Nat → Int} {lo : Int}
theorem go_loop (N : Nat) (hN : 20000 ≤ N) (hl : ¬ RW l) : ∀ (m : Nat) (ρ : Nat → Nat) (h : hS) (i fuel : Nat), i + m = n → CH ρ l h c n p Y → BS ρ h b ba ad (zT p' Y lo i) → (∀ j, i ≤ j → j < n → p' j = p j ∧ ¬ (j : Int) = lo) →
    ∃ ρ' g v, f_Bench_goThrough_56 N (m + (fuel + 1)) h b (some c) (iI i) = some (v, g) ∧ tr ρ h RW ρ' g ∧ hm g + brs g b ≤ hm h + brs h b ∧ ((∀ j, i ≤ j → j < n → okS p' Y lo j) → v = 1 ∧ BS ρ' g b ba ad (zT p' Y lo n)) ∧ (¬ (∀ j, i ≤ j → j < n → okS p' Y lo j) → v = 0 ∧ BX ρ' g b ba ad) := by
  intro m
  induction m with
  | zero =>
    intro ρ h i fuel hi C S hp
    have hs := C.sz
    refine ⟨ρ, h, 1, ?_, tr.rf, Nat.le_refl _, fun _ => ⟨rfl, by rw [show n = i by omega]; exact S⟩, fun q => absurd (fun j h1 h2 => by omega) q⟩
    rw [Nat.zero_add]
    unfold f_Bench_goThrough_56
    rw [gI_k C.k, hs.1, if_pos ((iI_le (by omega) (by omega)).mpr (by omega)), bz_1]
  | succ m ih =>
    intro ρ h i fuel hi C S hp
    have hs := C.sz
    obtain ⟨st, s1, s2⟩ := stepAt_in N C (show i < n by omega)
    obtain ⟨e1, e2⟩ := hp i (Nat.le_refl _) (by omega)
    rw [← e1] at s2
    obtain ⟨ρ1, g1, v, a1, a2, a3, a4, a5⟩ := applyStep_is N hN S s2
    have hk := S.x.k
    rw [show m + 1 + (fuel + 1) = (m + (fuel + 1)) + 1 by omega]
    unfold f_Bench_goThrough_56 f_Bench_goThrough_75
    rw [gI_k C.k, hs.1, if_neg (fun q => absurd ((iI_le (by omega) (by omega)).mp q) (by omega)), cv_k C.k, s1, cl_s, cv_k hk, a1, cl_s]
    by_cases hok : okS p' Y lo i
    · obtain ⟨v1, S1⟩ := a4 ((okS_go e2).mp hok)
      rw [v1, if_neg (by decide), bn_i, show (1 : Int32) = iI 1 from rfl, iI_add, show (i : Int) + 1 = ((i + 1 : Nat) : Int) by omega]
      rw [← zT_go e2] at S1
      have C1 := C.keep a2 (fun q => by unfold RW at q; omega) hl
      obtain ⟨ρ2, g2, v2, b1, b2, b3, b4, b5⟩ := ih ρ1 g1 (i + 1) fuel (by omega) C1 S1 (fun j h1 h2 => hp j (by omega) h2)
      have hall : (∀ j, i ≤ j → j < n → okS p' Y lo j) ↔ (∀ j, i + 1 ≤ j → j < n → okS p' Y lo j) := ⟨fun q j h1 h2 => q j (by omega) h2, fun q j h1 h2 => by
        by_cases hj : j = i
        · rw [hj]; exact hok
        · exact q j (by omega) h2⟩
      refine ⟨ρ2, g2, v2, b1, a2.trans b2, by omega, fun q => b4 (hall.mp q), fun q => b5 (fun z => q (hall.mpr z))⟩
    · obtain ⟨v1, S1⟩ := a5 (fun z => hok ((okS_go e2).mpr z))
      rw [v1, if_pos rfl, bz_0]
      exact ⟨ρ1, g1, 0, rfl, a2, a3, fun q => absurd (q i (Nat.le_refl _) (by omega)) hok, fun _ => ⟨rfl, S1⟩⟩
theorem build_loop (N : Nat) (hN : 20000 ≤ N) (hl : ¬ RW l) : ∀ (m : Nat) (ρ : Nat → Nat) (h : hS) (i fuel : Nat), i + m = n → CH ρ l h c n p Y → BS ρ h b ba ad (zT p Y (-1) i) →
    ∃ ρ' g v, f_Bench_build_11 N (m + (fuel + 1)) h b (some c) (iI i) = some (v, g) ∧ tr ρ h RW ρ' g ∧ hm g + brs g b ≤ hm h + brs h b ∧ ((∀ j, i ≤ j → j < n → okS p Y (-1) j) → v = 1 ∧ BS ρ' g b ba ad (zT p Y (-1) n)) ∧ (¬ (∀ j, i ≤ j → j < n → okS p Y (-1) j) → v = 0 ∧ BX ρ' g b ba ad ∧ ∃ j, i ≤ j ∧ j < n ∧ h_i g b 4 = iI j ∧ (∀ q, i ≤ q → q < j → okS p Y (-1) q) ∧ ¬ okS p Y (-1) j) := by
  intro m
  induction m with
  | zero =>
    intro ρ h i fuel hi C S
    have hs := C.sz
    refine ⟨ρ, h, 1, ?_, tr.rf, Nat.le_refl _, fun _ => ⟨rfl, by rw [show n = i by omega]; exact S⟩, fun q => absurd (fun j h1 h2 => by omega) q⟩
    rw [Nat.zero_add]
    unfold f_Bench_build_11
    rw [gI_k C.k, hs.1, if_pos ((iI_le (by omega) (by omega)).mpr (by omega)), bz_1]
  | succ m ih =>
    intro ρ h i fuel hi C S
    have hs := C.sz
    have e2 : ¬ (i : Int) = -1 := by omega
    obtain ⟨st, s1, s2⟩ := stepAt_in N C (show i < n by omega)
    obtain ⟨ρ1, g1, v, a1, a2, a3, a4, a5⟩ := applyStep_is N hN S s2
    have hk := S.x.k
    rw [show m + 1 + (fuel + 1) = (m + (fuel + 1)) + 1 by omega]
    unfold f_Bench_build_11 f_Bench_build_28
    rw [gI_k C.k, hs.1, if_neg (fun q => absurd ((iI_le (by omega) (by omega)).mp q) (by omega)), cv_k C.k, s1, cl_s, cv_k hk, a1, cl_s]
    by_cases hok : okS p Y (-1) i
    · obtain ⟨v1, S1⟩ := a4 ((okS_go e2).mp hok)
      rw [v1, if_neg (by decide), bn_i, show (1 : Int32) = iI 1 from rfl, iI_add, show (i : Int) + 1 = ((i + 1 : Nat) : Int) by omega]
      rw [← zT_go e2] at S1
      have C1 := C.keep a2 (fun q => by unfold RW at q; omega) hl
      obtain ⟨ρ2, g2, v2, b1, b2, b3, b4, b5⟩ := ih ρ1 g1 (i + 1) fuel (by omega) C1 S1
      have hall : (∀ j, i ≤ j → j < n → okS p Y (-1) j) ↔ (∀ j, i + 1 ≤ j → j < n → okS p Y (-1) j) := ⟨fun q j h1 h2 => q j (by omega) h2, fun q j h1 h2 => by
        by_cases hj : j = i
        · rw [hj]; exact hok
        · exact q j (by omega) h2⟩
      refine ⟨ρ2, g2, v2, b1, a2.trans b2, by omega, fun q => b4 (hall.mp q), fun q => ?_⟩
      obtain ⟨c1, c2, j, c3, c4, c5, c6, c7⟩ := b5 (fun z => q (hall.mpr z))
      refine ⟨c1, c2, j, by omega, c4, c5, fun q h1 h2 => ?_, c7⟩
      by_cases hj : q = i
      · rw [hj]; exact hok
      · exact c6 q (by omega) h2
    · obtain ⟨v1, S1⟩ := a5 (fun z => hok ((okS_go e2).mpr z))
      have hk1 := S1.k
      rw [v1, if_pos rfl, pI_k hk1, bz_0]
      have hlab : ρ1 b = 1 := by obtain ⟨w, s, lw, ls, B, _⟩ := S1; exact B.1.2.1
      have T : tr ρ1 g1 (rg 1) ρ1 (s_i g1 b 4 (iI i)) := tr_si hlab
      have hB2 : BX ρ1 (s_i g1 b 4 (iI i)) b ba ad ∧ brs (s_i g1 b 4 (iI i)) b = brs g1 b := by
        obtain ⟨w, s, lw, ls, B, c1, c2, c3, c4⟩ := S1
        have hne := B.ne
        obtain ⟨d1, k1⟩ := c1.keep T (fun q => hne.2.1 q)
        obtain ⟨d2, k2⟩ := c2.keep T (fun q => hne.2.2.1 q)
        obtain ⟨d3, k3⟩ := c3.keep T (fun q => by cases q)
        obtain ⟨d4, k4⟩ := c4.keep T (fun q => by cases q)
        have B1 : BO ρ1 (s_i g1 b 4 (iI i)) b ba ad w s lw ls := B
        exact ⟨⟨w, s, lw, ls, B1, d1, d2, d3, d4⟩, by rw [B1.rs, B.rs, k1, k2, k3, k4]⟩
      refine ⟨ρ1, s_i g1 b 4 (iI i), 0, rfl, a2.trans (T.mono (fun q hq => Or.inl hq)), ?_, fun q => absurd (q i (Nat.le_refl _) (by omega)) hok, fun _ => ⟨rfl, hB2.1, i, Nat.le_refl _, by omega, by simp [h_i_si, upd], fun q h1 h2 => by omega, hok⟩⟩
      rw [hB2.2]; exact a3
theorem build_is (N : Nat) (hN : 20000 ≤ N) (hl : ¬ RW l) {ρ : Nat → Nat} {h : hS} (C : CH ρ l h c n p Y) (B : BX ρ h b ba ad) :
    ∃ ρ' g v, f_Bench_build N h b (some c) = some (v, g) ∧ tr ρ h RW ρ' g ∧ hm g + brs g b ≤ hm h + brs h b ∧ ((∀ j, j < n → okS p Y (-1) j) → v = 1 ∧ BS ρ' g b ba ad (zT p Y (-1) n)) ∧ (¬ (∀ j, j < n → okS p Y (-1) j) → v = 0 ∧ BX ρ' g b ba ad ∧ ∃ j, j < n ∧ h_i g b 4 = iI j ∧ (∀ q, q < j → okS p Y (-1) q) ∧ ¬ okS p Y (-1) j) := by
  have hk := B.k
  have hlab : ρ b = 1 := by obtain ⟨w, s, lw, ls, B, _⟩ := B; exact B.1.2.1
  have T : tr ρ h (rg 1) ρ (s_i h b 4 (-1 : Int32)) := tr_si hlab
  have TW : tr ρ h RW ρ (s_i h b 4 (-1 : Int32)) := T.mono (fun q hq => Or.inl hq)
  have hB2 : BX ρ (s_i h b 4 (-1 : Int32)) b ba ad ∧ brs (s_i h b 4 (-1 : Int32)) b = brs h b := by
    obtain ⟨w, s, lw, ls, B, c1, c2, c3, c4⟩ := B
    have hne := B.ne
    obtain ⟨d1, k1⟩ := c1.keep T (fun q => hne.2.1 q)
    obtain ⟨d2, k2⟩ := c2.keep T (fun q => hne.2.2.1 q)
    obtain ⟨d3, k3⟩ := c3.keep T (fun q => by cases q)
    obtain ⟨d4, k4⟩ := c4.keep T (fun q => by cases q)
    have B1 : BO ρ (s_i h b 4 (-1 : Int32)) b ba ad w s lw ls := B
    exact ⟨⟨w, s, lw, ls, B1, d1, d2, d3, d4⟩, by rw [B1.rs, B.rs, k1, k2, k3, k4]⟩
  obtain ⟨ρ1, g1, e1, e2, e3, e4⟩ := startAnew_is N hB2.1
  have C1 := (C.keep TW (fun q => by unfold RW at q; omega) hl).keep e2 (fun q => by unfold RW at q; omega) hl
  have hn := C.sz.2
  obtain ⟨fuel, hfu⟩ : ∃ fuel, N = n + (fuel + 1) := ⟨N - n - 1, by omega⟩
  obtain ⟨ρ2, g2, v, a1, a2, a3, a4, a5⟩ := build_loop N hN hl n ρ1 g1 0 fuel (by omega) C1 e4
  have hm0 : hm (s_i h b 4 (-1 : Int32)) = hm h := rfl
  refine ⟨ρ2, g2, v, ?_, TW.trans (e2.trans a2), by have := hB2.2; omega, fun q => a4 (fun j _ h2 => q j h2), fun q => ?_⟩
  · unfold f_Bench_build f_Bench_build_9
    rw [pI_k hk, cv_k hB2.1.k, e1, cl_s]
    rw [← hfu] at a1
    exact a1
  · obtain ⟨c1, c2, j, c3, c4, c5, c6, c7⟩ := a5 (fun z => q (fun j h2 => z j (Nat.zero_le _) h2))
    exact ⟨c1, c2, j, c4, c5, fun q h2 => c6 q (Nat.zero_le _) h2, c7⟩
theorem stand_loop (N : Nat) (hN : 20000 ≤ N) (hl : ¬ RW l) {st : Nat} (hst : st ≤ n) (hok : ∀ j, j < n → okS p Y (-1) j) : ∀ (m : Nat) (ρ : Nat → Nat) (h : hS) (i fuel : Nat), i + m = st → CH ρ l h c n p Y → BS ρ h b ba ad (zT p Y (-1) i) →
    ∃ ρ' g, f_Bench_standAhead_6 N (m + (fuel + 1)) h b (some c) (iI st) (iI i) = f_Bench_standAhead_35 N g b ∧ tr ρ h RW ρ' g ∧ hm g + brs g b ≤ hm h + brs h b ∧ BS ρ' g b ba ad (zT p Y (-1) st) := by
  intro m
  induction m with
  | zero =>
    intro ρ h i fuel hi C S
    have hs := C.sz
    refine ⟨ρ, h, ?_, tr.rf, Nat.le_refl _, by rw [show st = i by omega]; exact S⟩
    rw [Nat.zero_add]
    unfold f_Bench_standAhead_6
    rw [if_pos ((iI_le (by omega) (by omega)).mpr (by omega))]
  | succ m ih =>
    intro ρ h i fuel hi C S
    have hs := C.sz
    have e2 : ¬ (i : Int) = -1 := by omega
    obtain ⟨s0, s1, s2⟩ := stepAt_in N C (show i < n by omega)
    obtain ⟨ρ1, g1, v, a1, a2, a3, a4, a5⟩ := applyStep_is N hN S s2
    have hk := S.x.k
    obtain ⟨v1, S1⟩ := a4 ((okS_go e2).mp (hok i (by omega)))
    rw [← zT_go e2] at S1
    have C1 := C.keep a2 (fun q => by unfold RW at q; omega) hl
    obtain ⟨ρ2, g2, b1, b2, b3, b4⟩ := ih ρ1 g1 (i + 1) fuel (by omega) C1 S1
    refine ⟨ρ2, g2, ?_, a2.trans b2, by omega, b4⟩
    rw [show m + 1 + (fuel + 1) = (m + (fuel + 1)) + 1 by omega]
    rw [← b1]
    generalize hF : f_Bench_standAhead_6 N (m + (fuel + 1)) = F
    unfold f_Bench_standAhead_6 f_Bench_standAhead_28
    rw [if_neg (fun q => absurd ((iI_le (by omega) (by omega)).mp q) (by omega)), gI_k C.k, hs.1, if_neg (fun q => absurd ((iI_le (by omega) (by omega)).mp q) (by omega)), cv_k C.k, s1, cl_s, cv_k hk, a1, cl_s, bn_i, show (1 : Int32) = iI 1 from rfl, iI_add, show (i : Int) + 1 = ((i + 1 : Nat) : Int) by omega, hF]
/-- the base becomes what was ahead of the step -/
theorem stand_is (N : Nat) (hN : 20000 ≤ N) (hl : ¬ RB l) {st : Nat} (hst : st ≤ n) (hok : ∀ j, j < n → okS p Y (-1) j) {ρ : Nat → Nat} {h : hS} (C : CH ρ l h c n p Y) (B : BX ρ h b ba ad) :
    ∃ ρ' g, f_Bench_standAhead N h b (some c) (iI st) = some ((), g) ∧ tr ρ h RB ρ' g ∧ hm g + brs g b ≤ hm h + brs h b ∧ BS ρ' g b ba ad (zT p Y (-1) st) ∧ CZ ρ' 4 g ba (zT p Y (-1) st) := by
  have hlW : ¬ RW l := fun q => hl (RW_B l q)
  have hn := C.sz.2
  obtain ⟨ρ1, g1, e1, e2, e3, e4⟩ := startAnew_is N B
  have C1 := C.keep e2 (fun q => by unfold RW at q; omega) hlW
  obtain ⟨fuel, hfu⟩ : ∃ fuel, N = st + (fuel + 1) := ⟨N - st - 1, by omega⟩
  obtain ⟨ρ2, g2, a1, a2, a3, a4⟩ := stand_loop N hN hlW hst hok st ρ1 g1 0 fuel (by omega) C1 e4
  obtain ⟨w, s, lw, ls, B2, c1, c2, c3, c4⟩ := id a4
  obtain ⟨ρ3, g3, w', d1, d2, d3, d4, d5, d6⟩ := take_from N a4 c3 (fun q => by unfold RW at q; omega)
  have hne := B2.ne
  have B3 := B2.keep d4 (fun q => by cases q)
  have f1 := c1.keep d4 (fun q => hne.2.2.2.1 q)
  obtain ⟨f2, k2⟩ := c2.keep d4 (fun q => hne.2.2.2.2.1 q)
  obtain ⟨f4, k4⟩ := c4.keep d4 (fun q => by cases q)
  have k1 := c1.1.cap d4 (fun q => hne.2.2.2.1 q)
  refine ⟨ρ3, g3, ?_, (e2.mono RW_B).trans ((a2.mono RW_B).trans (d4.mono (fun q hq => by have : q = 4 := hq; unfold RB; omega))), ?_, ⟨w, s, lw, ls, B3, f1, f2, d6.1.b, f4⟩, d6⟩
  · unfold f_Bench_standAhead f_Bench_standAhead_4
    rw [cv_k B.k, e1, cl_s]
    have h0 : f_Bench_standAhead_6 N N g1 b (some c) (iI st) (0 : Int32) = f_Bench_standAhead_35 N g2 b := by rw [← a1, ← hfu]; rfl
    rw [h0]
    unfold f_Bench_standAhead_35 f_Bench_standAhead_46
    rw [gR_k B2.k, B2.2.1.2.2.1, gR_k B2.k, cv_k d2, d1, d3, cl_s]
  · have h3 : brs g3 b = rst (capR g2 w) + rst (capR g2 s) + rst (capR g3 ba) + rst (capR g2 ad) := by rw [B3.rs, k1, k2, k4]
    have h2 := B2.rs
    omega
theorem zT_lo {p : Nat → Int × Int × Int} {Y : Nat → Nat → Int} {st : Nat} : ∀ i, i ≤ st → zT p Y (st : Int) i = zT p Y (-1) i := by
  intro i
  induction i with
  | zero => intro _; rfl
  | succ i ih => intro hi; rw [zT_go (by omega), zT_go (by omega), ih (by omega)]
theorem zT_pW {p : Nat → Int × Int × Int} {Y : Nat → Nat → Int} {st : Nat} {w lo : Int} : ∀ i, i ≤ st → zT (pW p st w) Y lo i = zT p Y lo i := by
  intro i
  induction i with
  | zero => intro _; rfl
  | succ i ih =>
    intro hi
    rw [zT, zT, ih (by omega)]
    have : pW p st w i = p i := by unfold pW; rw [if_neg (by omega)]
    rw [this]
/-- from the base through all other steps, one of them with another weight -/
theorem with_is (N : Nat) (hN : 20000 ≤ N) (hl : ¬ RB l) {st : Nat} (hst : st < n) (hok : ∀ j, j < n → okS p Y (-1) j) (hkd : (p st).1 ≤ 2) {w : Int} (hw : 0 ≤ w ∧ w ≤ 99) {ρ : Nat → Nat} {h : hS} (C : CH ρ l h c n p Y) (B : BX ρ h b ba ad) (C4 : CZ ρ 4 h ba (zT p Y (-1) st)) :
    ∃ ρ' g v, f_Bench_goThrough N h b (some c) (iI st) (iI w) = some (v, g) ∧ tr ρ h RW ρ' g ∧ hm g + brs g b ≤ hm h + brs h b ∧ ((∀ j, j < n → okS (pW p st w) Y (-1) j) → v = 1 ∧ BS ρ' g b ba ad (zT (pW p st w) Y (-1) n)) ∧ (¬ (∀ j, j < n → okS (pW p st w) Y (-1) j) → v = 0 ∧ BX ρ' g b ba ad) := by
  have hlW : ¬ RW l := fun q => hl (RW_B l q)
  have hn := C.sz.2
  obtain ⟨ρ1, g1, w0, a1, a2, a3, a4, a5, a6⟩ := take_work N B C4 (fun q => by unfold RW at q; omega)
  have C1 := C.keep a4 (fun q => by unfold RW at q; omega) hlW
  obtain ⟨s0, s1, s2⟩ := stepAt_in N C1 hst
  obtain ⟨t1, t2, t3, t4⟩ := id s2
  have hkk : h_k g1 s0 = 8 + 1 := t1.1
  have hpw : pW p st w st = ((p st).1, (p st).2.1, w) := by unfold pW; rw [if_pos rfl]
  have hne : ¬ (st : Int) = -1 := by omega
  have hokA : okArg (p st).1 (p st).2.1 w := ⟨t3.1, fun q => ⟨(t3.2.1 q).1, hw⟩, fun q => by omega, fun q => by omega, fun q => by omega⟩
  obtain ⟨ρ2, g2, v, b1, b2, b3, b4, b5⟩ := apply_is N hN a6 hokA (o := none) (Y := Y st) (fun q => by omega)
  have hpre : ∀ j, j < st → okS (pW p st w) Y (-1) j := fun j hj => by
    have := hok j (by omega)
    rw [okS_go (by omega)] at this ⊢
    rw [zT_pW j (by omega), show pW p st w j = p j by unfold pW; rw [if_neg (by omega)]]
    exact this
  have hstk : okS (pW p st w) Y (-1) st ↔ stOk (zT p Y (-1) st) (Y st) (p st).1 (p st).2.1 w := by
    rw [okS_go hne, zT_pW st (Nat.le_refl _), hpw]
  have hall : (∀ j, j < n → okS (pW p st w) Y (-1) j) ↔ (okS (pW p st w) Y (-1) st ∧ ∀ j, st + 1 ≤ j → j < n → okS (pW p st w) Y (-1) j) := ⟨fun q => ⟨q st hst, fun j _ h2 => q j h2⟩, fun q j hj => by
    rcases Nat.lt_trichotomy j st with z | z | z
    · exact hpre j z
    · rw [z]; exact q.1
    · exact q.2 j (by omega) hj⟩
  have hstart : f_Bench_goThrough N h b (some c) (iI st) (iI w) = f_Bench_goThrough_46 N g2 b (some c) (iI st) v := by
    unfold f_Bench_goThrough f_Bench_goThrough_11
    rw [gR_k B.k, a1, gR_k B.k, show h_r h b 2 = some ba from by obtain ⟨w, s, lw, ls, B, _⟩ := B; exact B.2.1.2.2.1, cv_k a2, a3, cl_s, cv_k C1.k, s1, cl_s, if_neg (by simp), if_neg (show ¬ iI w = (-1 : Int32) from fun q => absurd ((iI_eq (b := -1) (by omega) (by omega)).mp q) (by omega)), gI_k hkk, gI_k hkk, t2.1, t2.2.1, cv_k a6.x.k, b1, cl_s]
  rw [hstart]
  unfold f_Bench_goThrough_46
  by_cases hs : okS (pW p st w) Y (-1) st
  · obtain ⟨v1, S2⟩ := b4 (hstk.mp hs)
    have hz : zStep (zT p Y (-1) st) (Y st) (p st).1 (p st).2.1 w = zT (pW p st w) Y (-1) (st + 1) := by
      rw [zT_go hne, zT_pW st (Nat.le_refl _), hpw]
    rw [hz] at S2
    have C2 := C1.keep b2 (fun q => by unfold RW at q; omega) hlW
    obtain ⟨fuel, hfu⟩ : ∃ fuel, N = (n - (st + 1)) + (fuel + 1) := ⟨N - (n - (st + 1)) - 1, by omega⟩
    obtain ⟨ρ3, g3, v3, c1, c2, c3, c4, c5⟩ := go_loop (p' := pW p st w) (lo := -1) N hN hlW (n - (st + 1)) ρ2 g2 (st + 1) fuel (by omega) C2 S2 (fun j h1 h2 => ⟨by unfold pW; rw [if_neg (by omega)], by omega⟩)
    refine ⟨ρ3, g3, v3, ?_, a4.trans (b2.trans c2), by omega, fun q => c4 (hall.mp q).2, fun q => c5 (fun z => q (hall.mpr ⟨hs, z⟩))⟩
    rw [v1, if_neg (by decide)]
    unfold f_Bench_goThrough_51
    rw [show (1 : Int32) = iI 1 from rfl, iI_add, bn_i, show (st : Int) + 1 = ((st + 1 : Nat) : Int) by omega]
    rw [← hfu] at c1
    exact c1
  · obtain ⟨v1, S2⟩ := b5 (fun z => hs (hstk.mpr z))
    refine ⟨ρ2, g2, 0, ?_, a4.trans b2, by omega, fun q => absurd (hall.mp q).1 hs, fun _ => ⟨rfl, S2⟩⟩
    rw [v1, if_pos rfl, bz_0]
/-- from the base through all other steps, one of them left out -/
theorem without_is (N : Nat) (hN : 20000 ≤ N) (hl : ¬ RB l) {st : Nat} (hst : st < n) (hok : ∀ j, j < n → okS p Y (-1) j) {ρ : Nat → Nat} {h : hS} (C : CH ρ l h c n p Y) (B : BX ρ h b ba ad) (C4 : CZ ρ 4 h ba (zT p Y (-1) st)) :
    ∃ ρ' g v, f_Bench_goThrough N h b (some c) (iI st) (-1 : Int32) = some (v, g) ∧ tr ρ h RW ρ' g ∧ hm g + brs g b ≤ hm h + brs h b ∧ ((∀ j, j < n → okS p Y st j) → v = 1 ∧ BS ρ' g b ba ad (zT p Y st n)) ∧ (¬ (∀ j, j < n → okS p Y st j) → v = 0 ∧ BX ρ' g b ba ad) := by
  have hlW : ¬ RW l := fun q => hl (RW_B l q)
  have hn := C.sz.2
  obtain ⟨ρ1, g1, w0, a1, a2, a3, a4, a5, a6⟩ := take_work N B C4 (fun q => by unfold RW at q; omega)
  have C1 := C.keep a4 (fun q => by unfold RW at q; omega) hlW
  obtain ⟨s0, s1, s2⟩ := stepAt_in N C1 hst
  have hall : (∀ j, j < n → okS p Y st j) ↔ (∀ j, st + 1 ≤ j → j < n → okS p Y st j) := ⟨fun q j _ h2 => q j h2, fun q j hj => by
    rcases Nat.lt_trichotomy j st with z | z | z
    · have := hok j hj
      rw [okS_go (by omega)] at this ⊢
      rw [zT_lo j (by omega)]
      exact this
    · exact Or.inl (by rw [z])
    · exact q j (by omega) hj⟩
  have S1 : BS ρ1 g1 b ba ad (zT p Y st (st + 1)) := by
    rw [zT_skip rfl, zT_lo st (Nat.le_refl _)]; exact a6
  obtain ⟨fuel, hfu⟩ : ∃ fuel, N = (n - (st + 1)) + (fuel + 1) := ⟨N - (n - (st + 1)) - 1, by omega⟩
  obtain ⟨ρ3, g3, v3, c1, c2, c3, c4, c5⟩ := go_loop (p' := p) (lo := st) N hN hlW (n - (st + 1)) ρ1 g1 (st + 1) fuel (by omega) C1 S1 (fun j h1 h2 => ⟨rfl, by omega⟩)
  refine ⟨ρ3, g3, v3, ?_, a4.trans c2, by omega, fun q => c4 (hall.mp q), fun q => c5 (fun z => q (hall.mpr z))⟩
  unfold f_Bench_goThrough f_Bench_goThrough_11 f_Bench_goThrough_51
  rw [gR_k B.k, a1, gR_k B.k, show h_r h b 2 = some ba from by obtain ⟨w, s, lw, ls, B, _⟩ := B; exact B.2.1.2.2.1, cv_k a2, a3, cl_s, cv_k C1.k, s1, cl_s, if_neg (by simp), if_pos rfl, show (1 : Int32) = iI 1 from rfl, iI_add, bn_i, show (st : Int) + 1 = ((st + 1 : Nat) : Int) by omega]
  rw [← hfu] at c1
  exact c1
end
