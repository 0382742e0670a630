/-! LOOK: of each place how many unlike values the fitting weights have there -/
def stp (s : Int × Int) (v : Int) : Int × Int := if s.1 = 0 ∨ s.2 ≠ v then (s.1 + 1, v) else s
/-- behind the weights below w: how many values, the last of them -/
def unS (f : Nat → Bool) (V : Nat → Int) : Nat → Int × Int
  | 0 => (0, 0)
  | w + 1 => if f w then stp (unS f V w) (V w) else unS f V w
theorem unS_rng (f : Nat → Bool) (V : Nat → Int) : ∀ w, 0 ≤ (unS f V w).1 ∧ (unS f V w).1 ≤ w := by
  intro w
  induction w with
  | zero => simp [unS]
  | succ w ih =>
    rw [unS]
    split
    · unfold stp
      split
      · simp only []; omega
      · omega
    · omega
/-- the first of the greatest -/
def bst (U : Nat → Int) : Nat → Nat
  | 0 => 0
  | n + 1 => if U (bst U n) < U (n + 1) then n + 1 else bst U n
theorem bst_le (U : Nat → Int) : ∀ n, bst U n ≤ n := by
  intro n
  induction n with
  | zero => exact Nat.le_refl _
  | succ n ih => rw [bst]; split <;> omega
section
variable {ρ : Nat → Nat} {h : hS} {Q : Nat → Nat} {F : FT} {ks : List Nat} {α : Type}
/-- the two rows of look -/
def LK (h : hS) (Q : Nat → Nat) (S : Nat → Int × Int) : Prop := ∀ j, j < 41 → h_i h (Q 12) j = iI (S j).1 ∧ ((S j).1 ≠ 0 → h_j h (Q 11) j = lI (S j).2)
def RLk : Nat → Prop := fun q => q = 14 ∨ q = 16
theorem KS.rl (K : KS ρ h Q F ks) {g : hS} (t : tr ρ h RLk ρ g) (hmm : hm g = hm h) : KS ρ g Q F ks ∧ tr ρ h RA ρ g ∧ hm g + brs g (Q 4) ≤ hm h + brs h (Q 4) := by
  obtain ⟨k1, k2⟩ := K.ask0 t (fun q hq => by unfold RLk at hq; unfold RA RB; omega)
  exact ⟨k1, t.mono (fun q hq => by unfold RLk at hq; unfold RA; omega), by rw [k2, hmm]; exact Nat.le_refl _⟩
theorem KS.r11 (K : KS ρ h Q F ks) : rj h (Q 11) 41 ∧ ro h (Q 12) 41 ∧ Q 11 ≠ Q 12 ∧ ρ (Q 11) = 16 ∧ ρ (Q 12) = 16 ∧ (Q 11 < h_x h ∧ Q 12 < h_x h) := by
  have a := K.1.1 (11, 51, 16, 41) (by decide)
  have b := K.1.1 (12, 50, 16, 41) (by decide)
  exact ⟨⟨a.1, a.2.2.1⟩, ⟨b.1, b.2.2.1⟩, fun e => by have h1 := a.1; have h2 := b.1; simp only [] at h1 h2; rw [e, h2] at h1; exact absurd h1 (by decide), a.2.1, b.2.1, a.2.2.2, b.2.2.2⟩
theorem LK.keep {S : Nat → Int × Int} (L : LK h Q S) (K : KS ρ h Q F ks) {ρ' : Nat → Nat} {g : hS} {R : Nat → Prop} (t : tr ρ h R ρ' g) (hR : ¬ R 16) : LK g Q S := fun j hj => by
  obtain ⟨_, _, _, l1, l2, x1, x2⟩ := K.r11
  obtain ⟨a1, a2, a3, a4⟩ := t.2 (Q 11) x1
  obtain ⟨b1, b2, b3, b4⟩ := t.2 (Q 12) x2
  rw [(a4 (by rw [l1]; exact hR)).2.1, (b4 (by rw [l2]; exact hR)).1]
  exact L j hj
theorem along_loop (N : Nat) {l cu : Nat} {Z : Nat → Int} (hl : l = 2 ∨ l = 3) {S : Nat → Int × Int} (hs1 : ∀ j, j < 41 → 0 ≤ (S j).1 ∧ (S j).1 ≤ 100) (hs2 : ∀ j, j < 41 → -1000000000 ≤ (S j).2 ∧ (S j).2 ≤ 1000000000) : ∀ (m : Nat) (h : hS) (j fuel : Nat), j + m = 41 → KS ρ h Q F ks → CZ ρ l h cu Z → WK h (Q 9) cu ((j : Int) - 20) Z → LK h Q (fun k => if k < j then stp (S k) (zVal Z ((k : Int) - 20)) else S k) → ∃ g, f_K_lookAlong_12 N (m + (fuel + 1)) h (Q 0) (iI j) = some ((), g) ∧ tr ρ h RLk ρ g ∧ hm g = hm h ∧ LK g Q (fun k => if k < 41 then stp (S k) (zVal Z ((k : Int) - 20)) else S k) := by
  intro m
  induction m with
  | zero =>
    intro h j fuel hj K cz W L
    obtain ⟨q1, q2, _⟩ := K.r11
    have e : j = 41 := by omega
    subst e
    refine ⟨h, ?_, tr.rf, rfl, L⟩
    rw [Nat.zero_add]
    unfold f_K_lookAlong_12 f_K_lookAlong_92
    rw [gR_k K.x.1, K.ref (i := 0) (k := 12) (j := 12) (by decide), lnA_i q2, if_pos (show iI (41 : Nat) ≤ iI (41 : Nat) by decide)]
  | succ m ih =>
    intro h j fuel hj K cz W L
    obtain ⟨q1, q2, q3, l1, l2, x1, x2⟩ := K.r11
    have hj1 := L j (by omega)
    simp only [if_neg (Nat.lt_irrefl j)] at hj1
    have hSj := hs1 j (by omega)
    have hSj2 := hs2 j (by omega)
    have zv := cz.2.val2 (x := (j : Int) - 20) (by omega) (by omega)
    have r12 := K.ref (i := 0) (k := 12) (j := 12) (by decide)
    have r11 := K.ref (i := 0) (k := 11) (j := 11) (by decide)
    have r9 := K.ref (i := 0) (k := 9) (j := 9) (by decide)
    obtain ⟨a9, b9, c9⟩ := K.w9
    have go : ∀ (g0 : hS), KS ρ g0 Q F ks → CZ ρ l g0 cu Z → tr ρ h RLk ρ g0 → hm g0 = hm h → WK g0 (Q 9) cu ((j : Int) - 20) Z → LK g0 Q (fun k => if k < j + 1 then stp (S k) (zVal Z ((k : Int) - 20)) else S k) → ∃ g, f_K_lookAlong_79 N (f_K_lookAlong_12 N (m + (fuel + 1))) g0 (Q 0) (iI j) = some ((), g) ∧ tr ρ h RLk ρ g ∧ hm g = hm h ∧ LK g Q (fun k => if k < 41 then stp (S k) (zVal Z ((k : Int) - 20)) else S k) := by
      intro g0 K0 cz0 t0 m0 W0 L0
      obtain ⟨a9, b9, c9⟩ := K0.w9
      obtain ⟨g1, e1, e2, e3, e4⟩ := goOn_is N a9 (by rw [b9]; omega) cz0 (by omega) W0
      rw [b9] at e2
      have e2' : tr ρ g0 RLk ρ g1 := e2.mono (fun q hq => Or.inl hq)
      obtain ⟨K1, _, _⟩ := K0.rl e2' e4
      rw [show (j : Int) - 20 + 1 = ((j + 1 : Nat) : Int) - 20 by omega] at e3
      obtain ⟨g, f1, f2, f3, f4⟩ := ih g1 (j + 1) fuel (by omega) K1 (cz0.keep e2 (fun q => by have : l = 14 := q; omega)) e3 (L0.keep K0 e2 (by intro z; cases z))
      refine ⟨g, ?_, (t0.trans e2').trans f2, by omega, f4⟩
      unfold f_K_lookAlong_79
      rw [gR_k K0.x.1, K0.ref (i := 0) (k := 9) (j := 9) (by decide), cv_k (show h_k g0 (Q 9) = 11 + 1 from a9), e1, cl_s, bn_i, show (1 : Int32) = iI 1 from rfl, iI_add, show (j : Int) + 1 = ((j + 1 : Nat) : Int) by omega]
      exact f1
    have new : ((S j).1 = 0 ∨ (S j).2 ≠ zVal Z ((j : Int) - 20)) → ∃ g, f_K_lookAlong_56 N (f_K_lookAlong_12 N (m + (fuel + 1))) h (Q 0) (iI j) = some ((), g) ∧ tr ρ h RLk ρ g ∧ hm g = hm h ∧ LK g Q (fun k => if k < 41 then stp (S k) (zVal Z ((k : Int) - 20)) else S k) := by
      intro hnew
      have t1 : tr ρ h (rg 16) ρ (s_i h (Q 12) j (iI ((S j).1 + 1))) := tr_si l2
      have t2 : tr ρ h (rg 16) ρ (s_j (s_i h (Q 12) j (iI ((S j).1 + 1))) (Q 11) j (lI (zVal Z ((j : Int) - 20)))) := t1.trans (tr_sj l1)
      have t1' : tr ρ h RLk ρ (s_i h (Q 12) j (iI ((S j).1 + 1))) := t1.mono (fun q hq => Or.inr hq)
      have t2' : tr ρ h RLk ρ (s_j (s_i h (Q 12) j (iI ((S j).1 + 1))) (Q 11) j (lI (zVal Z ((j : Int) - 20)))) := t2.mono (fun q hq => Or.inr hq)
      obtain ⟨K1, _, _⟩ := K.rl t1' rfl
      obtain ⟨K2, _, _⟩ := K.rl t2' rfl
      have W1 := W.keep t1 c9 (by rw [b9]; intro z; cases z)
      have W2 := W.keep t2 c9 (by rw [b9]; intro z; cases z)
      have e16 : ¬ rg 16 l := fun q => by have : l = 16 := q; omega
      obtain ⟨g, f1, f2, f3, f4⟩ := go _ K2 (cz.keep t2 e16) t2' rfl W2 (fun k hk => by
        have hkk := L k hk
        rw [h_j_sj, if_pos rfl, h_i_sj, h_i_si, if_pos rfl, h_j_si]
        unfold upd vp_updL
        simp only []
        by_cases e : k = j
        · subst e
          rw [if_pos rfl, if_pos rfl, if_pos (show k < k + 1 by omega)]
          unfold stp
          rw [if_pos hnew]
          exact ⟨rfl, fun _ => rfl⟩
        · simp only [] at hkk
          rw [if_neg e, if_neg e]
          by_cases e2 : k < j
          · rw [if_pos e2] at hkk
            rw [if_pos (show k < j + 1 by omega)]
            exact hkk
          · rw [if_neg e2] at hkk
            rw [if_neg (show ¬ k < j + 1 by omega)]
            exact hkk)
      refine ⟨g, ?_, f2, f3, f4⟩
      unfold f_K_lookAlong_56
      rw [gR_k K.x.1, r12, aI_iI (z := (j : Int)) q2 (by omega) (by omega) (by omega), Int.toNat_natCast, hj1.1, show (1 : Int32) = iI 1 from rfl, iI_add, uI_iI (z := (j : Int)) q2 (by omega) (by omega) (by omega), Int.toNat_natCast, gR_k K1.x.1, K1.ref (i := 0) (k := 11) (j := 11) (by decide), gR_k K1.x.1, K1.ref (i := 0) (k := 9) (j := 9) (by decide), gJ_k (show h_k (s_i h (Q 12) j (iI ((S j).1 + 1))) (Q 9) = 11 + 1 from a9), W1.2.2.2.2, uJ_i (h := s_i h (Q 12) j (iI ((S j).1 + 1))) (a := Q 11) (n := 41) q1 (by omega) (by omega)]
      exact f1
    rw [show m + 1 + (fuel + 1) = (m + (fuel + 1)) + 1 by omega]
    generalize hR : f_K_lookAlong_12 N (m + (fuel + 1)) = R at go new
    unfold f_K_lookAlong_12
    rw [hR, gR_k K.x.1, r12, lnA_i q2, if_neg (show ¬ iI (41 : Nat) ≤ iI j from fun z => absurd ((iI_le (by omega) (by omega)).mp z) (by omega)), gR_k K.x.1, r11, lnJ q1, if_neg (show ¬ iI (41 : Nat) ≤ iI j from fun z => absurd ((iI_le (by omega) (by omega)).mp z) (by omega)), gR_k K.x.1, r12, aI_iI (z := (j : Int)) q2 (by omega) (by omega) (by omega), Int.toNat_natCast, hj1.1]
    by_cases s0 : (S j).1 = 0
    · rw [if_pos (show iI (S j).1 = (0 : Int32) by rw [s0]; rfl)]
      exact new (Or.inl s0)
    · rw [if_neg (show ¬ iI (S j).1 = (0 : Int32) from fun z => s0 ((iI_eq (b := 0) (by omega) (by omega)).mp z)), gR_k K.x.1, r11, aJ_i q1 (by omega) (by omega), hj1.2 s0, gR_k K.x.1, r9, gJ_k (show h_k h (Q 9) = 11 + 1 from a9), W.2.2.2.2]
      by_cases sv : (S j).2 = zVal Z ((j : Int) - 20)
      · rw [if_pos ((lg_eq0 _ _).mpr (by rw [sv]))]
        refine go h K cz tr.rf rfl W (fun k hk => ?_)
        have hkk := L k hk
        simp only [] at hkk ⊢
        by_cases e : k = j
        · subst e
          rw [if_neg (show ¬ k < k by omega)] at hkk
          rw [if_pos (show k < k + 1 by omega)]
          unfold stp
          rw [if_neg (fun z => by rcases z with z | z; exact s0 z; exact z sv)]
          exact hkk
        · by_cases e2 : k < j
          · rw [if_pos e2] at hkk
            rw [if_pos (show k < j + 1 by omega)]
            exact hkk
          · rw [if_neg e2] at hkk
            rw [if_neg (show ¬ k < j + 1 by omega)]
            exact hkk
      · rw [if_neg (fun z => sv ((lI_eq (by omega) (by omega)).mp ((lg_eq0 _ _).mp z)))]
        exact new (Or.inr sv)
theorem along_is (N : Nat) (hN : 20000 ≤ N) (K : KS ρ h Q F ks) {l cu : Nat} {Z : Nat → Int} (hl : l = 2 ∨ l = 3) (cz : CZ ρ l h cu Z) {S : Nat → Int × Int} (hs1 : ∀ j, j < 41 → 0 ≤ (S j).1 ∧ (S j).1 ≤ 100) (hs2 : ∀ j, j < 41 → -1000000000 ≤ (S j).2 ∧ (S j).2 ≤ 1000000000) (L : LK h Q S) : ∃ g, f_K_lookAlong N h (Q 0) (some cu) = some ((), g) ∧ tr ρ h RLk ρ g ∧ hm g = hm h ∧ LK g Q (fun k => stp (S k) (zVal Z ((k : Int) - 20))) := by
  obtain ⟨a9, b9, c9⟩ := K.w9
  obtain ⟨g1, e1, e2, e3, e4⟩ := start_is N hN a9 (by rw [b9]; omega) cz (x := -20) (by omega)
  rw [b9] at e2
  have e2' : tr ρ h RLk ρ g1 := e2.mono (fun q hq => Or.inl hq)
  obtain ⟨K1, _, _⟩ := K.rl e2' e4
  obtain ⟨fuel, hfu⟩ : ∃ fuel, N = 41 + (fuel + 1) := ⟨N - 42, by omega⟩
  obtain ⟨g, f1, f2, f3, f4⟩ := along_loop N hl hs1 hs2 41 g1 0 fuel (by omega) K1 (cz.keep e2 (fun q => by have : l = 14 := q; omega)) e3 (fun k hk => by
    simp only [if_neg (Nat.not_lt_zero k)]
    exact L.keep K e2 (by intro z; cases z) k hk)
  rw [← hfu] at f1
  refine ⟨g, ?_, e2'.trans f2, f3.trans e4, fun k hk => by have := f4 k hk; simp only [if_pos hk] at this; exact this⟩
  unfold f_K_lookAlong
  rw [gR_k K.x.1, K.ref (i := 0) (k := 9) (j := 9) (by decide), cv_k (show h_k h (Q 9) = 11 + 1 from a9), show (-20 : Int32) = iI (-20) by decide, e1, cl_s]
  exact f1
theorem fillI_loop (N : Nat) {h : hS} {a n : Nat} (hr : ro h a n) (hn : n < 2 ^ 31) (v : Int32) : ∀ (m i fuel : Nat) (G : Nat → Int32), i + m = n → (∀ j, j < i → G j = v) → ∃ G', f_Arr_fill_53178_5 N (m + (fuel + 1)) (s_w h a G) (some a) v (iI i) (iI n) = some ((), s_w h a G') ∧ ∀ j, j < n → G' j = v := by
  intro m
  induction m with
  | zero =>
    intro i fuel G hi hG
    refine ⟨G, ?_, fun j hj => hG j (by omega)⟩
    rw [Nat.zero_add]
    unfold f_Arr_fill_53178_5
    rw [if_pos ((iI_le (by omega) (by omega)).mpr (by omega))]
  | succ m ih =>
    intro i fuel G hi hG
    obtain ⟨G', e1, e2⟩ := ih (i + 1) fuel (upd G i v) (by omega) (fun j hj => by
      unfold upd
      by_cases h : j = i
      · rw [if_pos h]
      · rw [if_neg h]; exact hG j (by omega))
    refine ⟨G', ?_, e2⟩
    rw [show m + 1 + (fuel + 1) = (m + (fuel + 1)) + 1 by omega]
    unfold f_Arr_fill_53178_5
    rw [if_neg (fun q => absurd ((iI_le (by omega) (by omega)).mp q) (by omega)), uI_iI (h := s_w h a G) (z := (i : Int)) (hr.sm (sm_w _ _ _)) (by omega) (by omega) hn, Int.toNat_natCast, s_w_i, bn_i, show (1 : Int32) = iI 1 from rfl, iI_add, show (i : Int) + 1 = ((i + 1 : Nat) : Int) by omega]
    exact e1
theorem fillI_is (N : Nat) {h : hS} {a n : Nat} (hr : ro h a n) (hn : n < N) (hn2 : n < 2 ^ 31) (v : Int32) : ∃ G, f_Arr_fill_53178 N h (some a) v = some ((), s_w h a G) ∧ ∀ j, j < n → G j = v := by
  obtain ⟨fuel, hfu⟩ : ∃ fuel, N = n + (fuel + 1) := ⟨N - n - 1, by omega⟩
  obtain ⟨G, e1, e2⟩ := fillI_loop N hr hn2 v n 0 fuel (h_i h a) (by omega) (fun j hj => by omega)
  refine ⟨G, ?_, e2⟩
  unfold f_Arr_fill_53178
  rw [lnA_i hr]
  rw [s_w_self, ← hfu] at e1
  exact e1
theorem unS_val (f : Nat → Bool) (V : Nat → Int) {B : Int} (hB : 0 ≤ B) : ∀ w, (∀ u, u < w → f u = true → -B ≤ V u ∧ V u ≤ B) → -B ≤ (unS f V w).2 ∧ (unS f V w).2 ≤ B := by
  intro w
  induction w with
  | zero => intro _; simp [unS]; omega
  | succ w ih =>
    intro hV
    have i1 := ih (fun u hu hf => hV u (by omega) hf)
    rw [unS]
    split
    · have := hV w (by omega) (by assumption)
      unfold stp
      split
      · exact this
      · exact i1
    · exact i1
/-- the values at a place, by the weight -/
def zVw (S : StT) (i : Nat) (j : Nat) (w : Nat) : Int := zVal (zT (pW (S.1 0).2.1 i w) (S.1 0).2.2 (-1) (S.1 0).1) ((j : Int) - 20)
theorem look_loop (N : Nat) (hN : 20000 ≤ N) {i : Nat} (hi : i < (F.1.1 0).1) (hkd : ((F.1.1 0).2.1 i).1 ≤ 2) (b : Int32) {f : Nat → Bool} (hf : ∀ w, w ≤ 40 → (f w = true ↔ zFit F.1 i w)) (hV : ∀ j, j < 41 → ∀ w, w ≤ 40 → f w = true → -1000000000 ≤ zVw F.1 i j w ∧ zVw F.1 i j w ≤ 1000000000) {a : Int32} (fin : ∀ ρ h, KS ρ h Q F ks → LK h Q (fun j => unS f (zVw F.1 i j) 41) → KE ρ h Q F ks a 0 (f_K_look_93 N N h (Q 0) b (0 : Int32) (1 : Int32))) : ∀ (m w : Nat) (ρ : Nat → Nat) (h : hS) (fuel : Nat), w + m = 41 → KS ρ h Q F ks → CZ ρ 4 h (Q 24) (zT (F.1.1 0).2.1 (F.1.1 0).2.2 (-1) i) → LK h Q (fun j => unS f (zVw F.1 i j) w) → KE ρ h Q F ks a 0 (f_K_look_32 N (m + (fuel + 1)) h (Q 0) (iI i) b (some (Q 40)) (iI w)) := by
  intro m
  induction m with
  | zero =>
    intro w ρ h fuel hw K C4 L
    have e : w = 41 := by omega
    subst e
    rw [Nat.zero_add]
    unfold f_K_look_32
    rw [if_pos (show (40 : Int32) < iI (41 : Nat) by decide)]
    exact fin ρ h K L
  | succ m ih =>
    intro w ρ h fuel hw K C4 L
    have h4 := K.ko (i := 4) (k := 2) (l := 1) (n := 0) (by decide)
    obtain ⟨ρ1, g1, v, a1, K1, T1, m1, C41, hv⟩ := try_is N hN K hi hkd C4 (w := w) (by omega)
    have L1 : LK g1 Q (fun j => unS f (zVw F.1 i j) w) := by
      have ch := K.ch (c := 0) (by omega)
      obtain ⟨ρ2, g2, v2, b1, b2, _⟩ := with_is N hN (l := 101 + (0 : Int).toNat) (fun q => by unfold RB at q; simp at q) hi (K.v (c := 0) (by omega)).2.2 hkd (w := (w : Int)) (by omega) ch K.2.1.1 C4
      have e : g2 = g1 := by
        have := a1.symm.trans b1
        simp only [Option.some.injEq, Prod.mk.injEq] at this
        exact this.2.symm
      subst e
      exact L.keep K b2 (by unfold RW; omega)
    rw [show m + 1 + (fuel + 1) = (m + (fuel + 1)) + 1 by omega]
    have en : iI w + (1 : Int32) = iI ((w + 1 : Nat) : Int) := by rw [show (1 : Int32) = iI 1 from rfl, iI_add]; rfl
    have no : (¬ zFit F.1 i w) → ∀ r, r = f_K_look_32 N (m + (fuel + 1)) g1 (Q 0) (iI i) b (some (Q 40)) (iI ((w + 1 : Nat) : Int)) → KE ρ h Q F ks a 0 r := by
      intro hn r hr
      rw [hr]
      refine KE.go T1 m1 (ih (w + 1) ρ1 g1 fuel (by omega) K1 C41 (fun j hj => ?_))
      simp only []
      rw [unS, if_neg (fun z => hn ((hf w (by omega)).mp z))]
      exact L1 j hj
    rcases hv with ⟨v0, hng⟩ | ⟨v1, hgo, cu, l, k4, r4, hl, cz⟩
    · refine no (fun z => hng z.1) _ ?_
      generalize hR : f_K_look_32 N (m + (fuel + 1)) = R
      unfold f_K_look_32 f_K_look_50 f_K_look_81
      rw [hR, if_neg (show ¬ (40 : Int32) < iI w from fun z => absurd ((iI_lt (a := 40) (by omega) (by omega)).mp z) (by omega)), gR_k K.x.1, K.ref (i := 0) (k := 4) (j := 4) (by decide), cv_k (show h_k h (Q 4) = 1 + 1 from h4.1), a1, cl_s, v0, if_pos rfl, bn_i, en]
    · obtain ⟨u, u1, u2⟩ := hold_is N hN K1 cz
      have h16 : h_k g1 (Q 16) = 7 + 1 := (K1.so (i := 16) (k := 8) (l := 100) (n := 0) (by decide)).1
      obtain ⟨g2, d1, d2, d3, d4⟩ := along_is N hN K1 hl cz (S := fun j => unS f (zVw F.1 i j) w) (fun j hj => by have := unS_rng f (zVw F.1 i j) w; omega) (fun j hj => unS_val f (zVw F.1 i j) (B := 1000000000) (by omega) w (fun x hx hfx => hV j hj x (by omega) hfx)) L1
      obtain ⟨K2, T2, m2⟩ := K1.rl d2 d3
      have st : f_K_look_32 N (m + (fuel + 1) + 1) h (Q 0) (iI i) b (some (Q 40)) (iI w) = if u = 0 then f_K_look_32 N (m + (fuel + 1)) g1 (Q 0) (iI i) b (some (Q 40)) (iI ((w + 1 : Nat) : Int)) else f_K_look_32 N (m + (fuel + 1)) g2 (Q 0) (iI i) b (some (Q 40)) (iI ((w + 1 : Nat) : Int)) := by
        generalize hR : f_K_look_32 N (m + (fuel + 1)) = R
        unfold f_K_look_32 f_K_look_50 f_K_look_81
        rw [hR, if_neg (show ¬ (40 : Int32) < iI w from fun z => absurd ((iI_lt (a := 40) (by omega) (by omega)).mp z) (by omega)), gR_k K.x.1, K.ref (i := 0) (k := 4) (j := 4) (by decide), cv_k (show h_k h (Q 4) = 1 + 1 from h4.1), a1, cl_s, v1, if_neg (show ¬ (1 : Int32) = 0 by decide), gR_k K1.x.1, K1.ref (i := 0) (k := 16) (j := 16) (by decide), gR_k K1.x.1, K1.ref (i := 0) (k := 4) (j := 4) (by decide), gR_k k4, r4, cv_k h16, u1, cl_s, gR_k K1.x.1, K1.ref (i := 0) (k := 4) (j := 4) (by decide), gR_k k4, r4, cv_k K1.x.1, d1, cl_s, bn_i, en, bn_i]
      rcases u2 with ⟨e, ho⟩ | ⟨e, hno⟩
      · rw [st, e, if_neg (show ¬ (1 : Int32) = 0 by decide)]
        have C42 : CZ ρ1 4 g2 (Q 24) (zT (F.1.1 0).2.1 (F.1.1 0).2.2 (-1) i) := C41.keep d2 (fun q => by unfold RLk at q; omega)
        refine KE.go T1 m1 (KE.go T2 m2 (ih (w + 1) ρ1 g2 fuel (by omega) K2 C42 (fun j hj => ?_)))
        have := d4 j hj
        simp only [] at this ⊢
        rw [unS, if_pos ((hf w (by omega)).mpr ⟨hgo, ho⟩)]
        exact this
      · exact no (fun z => hno z.2) _ (by rw [st, e, if_pos rfl])
theorem best_loop (N : Nat) {U : Nat → Int} (hU : ∀ j, j < 41 → 0 ≤ U j ∧ U j ≤ 1000) (K : KS ρ h Q F ks) (L : ∀ j, j < 41 → h_i h (Q 12) j = iI (U j)) {b : Int} (hb : b = 0 ∨ b = 1) : ∀ (m j fuel : Nat), j + 1 + m = 41 → KE ρ h Q F ks (iI (if b = 1 then U (bst U 40) else if U (bst U 40) = 0 then -10000000 else (bst U 40 : Int) - 20)) 0 (f_K_look_93 N (m + (fuel + 1)) h (Q 0) (iI b) (iI (bst U j)) (iI ((j + 1 : Nat) : Int))) := by
  obtain ⟨_, q2, _⟩ := K.r11
  have r12 := K.ref (i := 0) (k := 12) (j := 12) (by decide)
  intro m
  induction m with
  | zero =>
    intro j fuel hj
    have e : j = 40 := by omega
    subst e
    have hb40 := bst_le U 40
    have hu := hU (bst U 40) (by omega)
    rw [Nat.zero_add]
    unfold f_K_look_93 f_K_look_169
    rw [gR_k K.x.1, r12, lnA_i q2, if_pos (show iI (41 : Nat) ≤ iI ((40 + 1 : Nat) : Int) by decide), gR_k K.x.1, r12, aI_iI (z := (bst U 40 : Int)) q2 (by omega) (by omega) (by omega), Int.toNat_natCast, L _ (by omega)]
    rcases hb with e | e <;> subst e
    · rw [if_neg (show ¬ iI 0 = (1 : Int32) by decide), if_neg (by decide), gR_k K.x.1, r12, aI_iI (z := (bst U 40 : Int)) q2 (by omega) (by omega) (by omega), Int.toNat_natCast, L _ (by omega)]
      by_cases u0 : U (bst U 40) = 0
      · rw [if_pos (show iI (U (bst U 40)) = (0 : Int32) by rw [u0]; rfl), if_pos u0]
        exact KE.ok K rfl
      · rw [if_neg (show ¬ iI (U (bst U 40)) = (0 : Int32) from fun z => u0 ((iI_eq (b := 0) (by omega) (by omega)).mp z)), if_neg u0, show (20 : Int32) = iI 20 from rfl, iI_sub]
        exact KE.ok K rfl
    · rw [if_pos (show iI 1 = (1 : Int32) from rfl), if_pos rfl]
      exact KE.ok K rfl
  | succ m ih =>
    intro j fuel hj
    have hbj := bst_le U j
    have hu := hU (bst U j) (by omega)
    have hu2 := hU (j + 1) (by omega)
    rw [show m + 1 + (fuel + 1) = (m + (fuel + 1)) + 1 by omega]
    have := ih (j + 1) fuel (by omega)
    rw [show bst U (j + 1) = if U (bst U j) < U (j + 1) then j + 1 else bst U j from rfl] at this
    generalize hR : f_K_look_93 N (m + (fuel + 1)) = R at this
    unfold f_K_look_93 f_K_look_127
    rw [hR, gR_k K.x.1, r12, lnA_i q2, if_neg (show ¬ iI (41 : Nat) ≤ iI ((j + 1 : Nat) : Int) from fun z => absurd ((iI_le (by omega) (by omega)).mp z) (by omega)), gR_k K.x.1, r12, aI_iI (z := ((j + 1 : Nat) : Int)) q2 (by omega) (by omega) (by omega), Int.toNat_natCast, L _ (by omega), gR_k K.x.1, r12, aI_iI (z := (bst U j : Int)) q2 (by omega) (by omega) (by omega), Int.toNat_natCast, L _ (by omega), bn_i, bn_i, show (1 : Int32) = iI 1 from rfl, iI_add, show ((j + 1 : Nat) : Int) + 1 = ((j + 1 + 1 : Nat) : Int) by omega]
    by_cases c : U (bst U j) < U (j + 1)
    · rw [if_neg (fun z => absurd ((iI_le (by omega) (by omega)).mp z) (by omega))]
      rw [if_pos c] at this
      exact this
    · rw [if_pos ((iI_le (by omega) (by omega)).mpr (by omega))]
      rw [if_neg c] at this
      exact this
theorem look_K (N : Nat) (hN : 20000 ≤ N) (K : KS ρ h Q F ks) {i b : Int} (hi : i32 i) (hb : i32 b) {f : Nat → Bool} : (¬ ((isSt F.1.1 0 i ∧ ((F.1.1 0).2.1 i.toNat).1 ≤ 2) ∧ (0 ≤ b ∧ b ≤ 1)) → KE ρ h Q F ks (0 : Int32) 1 (f_K_look N h (Q 0) (iI i) (iI b))) ∧ ((isSt F.1.1 0 i ∧ ((F.1.1 0).2.1 i.toNat).1 ≤ 2) ∧ (0 ≤ b ∧ b ≤ 1) → (∀ w, w ≤ 40 → (f w = true ↔ zFit F.1 i.toNat w)) → (∀ j, j < 41 → ∀ w, w ≤ 40 → f w = true → -1000000000 ≤ zVw F.1 i.toNat j w ∧ zVw F.1 i.toNat j w ≤ 1000000000) → KE ρ h Q F ks (iI (if b = 1 then (unS f (zVw F.1 i.toNat (bst (fun j => (unS f (zVw F.1 i.toNat j) 41).1) 40)) 41).1 else if (unS f (zVw F.1 i.toNat (bst (fun j => (unS f (zVw F.1 i.toNat j) 41).1) 40)) 41).1 = 0 then -10000000 else (bst (fun j => (unS f (zVw F.1 i.toNat j) 41).1) 40 : Int) - 20)) 0 (f_K_look N h (Q 0) (iI i) (iI b))) := by
  unfold f_K_look
  refine ⟨fun hn => weighed_K N K hi hb _ _ (fun h2 => f_K_look_6 N h2 (Q 0) (iI i) (iI b)) (fun _ => rfl) (fun q hkd hb2 => absurd ⟨⟨q, hkd⟩, by omega⟩ hn), fun hcond hf hV => ?_⟩
  refine weighed_K N K hi hb _ _ (fun h2 => f_K_look_6 N h2 (Q 0) (iI i) (iI b)) (fun q => absurd hcond q) (fun q hkd hb2 => ?_)
  unfold f_K_look_6 f_K_look_11 f_K_look_29
  have hin : i.toNat < (F.1.1 0).1 := by have := q.2; have e : (0 : Int).toNat = 0 := rfl; rw [e] at this; omega
  obtain ⟨q1, q2, q3, l1, l2, x1, x2⟩ := K.r11
  obtain ⟨G, e1, e2⟩ := fillI_is N q2 (by omega) (by omega) (0 : Int32)
  have t0 : tr ρ h RLk ρ (s_w h (Q 12) G) := tr_sI (Or.inr l2)
  obtain ⟨K0, T0, m0⟩ := K.rl t0 rfl
  have L0 : LK (s_w h (Q 12) G) Q (fun j => unS f (zVw F.1 i.toNat j) 0) := fun j hj => by
    rw [h_i_sw, if_pos rfl, e2 j hj]
    exact ⟨rfl, fun z => absurd rfl z⟩
  have h4 := K0.ko (i := 4) (k := 2) (l := 1) (n := 0) (by decide)
  obtain ⟨ρ1, g1, a1, a2, a3, a4, a5⟩ := stand_is N hN (l := 101 + (0 : Int).toNat) (fun z => by unfold RB at z; simp at z) (Nat.le_of_lt hin) (K0.v (c := 0) (by omega)).2.2 (K0.ch (c := 0) (by omega)) K0.2.1.1
  obtain ⟨K1, T1⟩ := K0.goB a2 a4.x
  have L1 := L0.keep K0 a2 (by unfold RB; omega)
  obtain ⟨fuel, hfu⟩ : ∃ fuel, N = 41 + (fuel + 1) := ⟨N - 42, by omega⟩
  obtain ⟨fuel2, hfu2⟩ : ∃ fuel, N = 40 + (fuel + 1) := ⟨N - 41, by omega⟩
  have := look_loop N hN hin hkd (iI b) hf hV (a := iI (if b = 1 then (unS f (zVw F.1 i.toNat (bst (fun j => (unS f (zVw F.1 i.toNat j) 41).1) 40)) 41).1 else if (unS f (zVw F.1 i.toNat (bst (fun j => (unS f (zVw F.1 i.toNat j) 41).1) 40)) 41).1 = 0 then -10000000 else (bst (fun j => (unS f (zVw F.1 i.toNat j) 41).1) 40 : Int) - 20)) (fun ρ h K L => by
    have := best_loop N (U := fun j => (unS f (zVw F.1 i.toNat j) 41).1) (fun j hj => by have := unS_rng f (zVw F.1 i.toNat j) 41; omega) K (fun j hj => (L j hj).1) hb2 40 0 fuel2 (by omega)
    rw [← hfu2] at this
    exact this) 41 0 ρ1 g1 fuel (by omega) K1 a5 L1
  rw [← hfu, show (i.toNat : Int) = i by have := q.2; omega] at this
  rw [show (i.toNat : Int) = i by have := q.2; omega] at a1
  rw [cvT_k K.x.1, show f_K_chainOf N h (Q 0) (0 : Int32) = _ from chain_y N K (c := 0) (by omega), clT_l, gR_k K.x.1, K.ref (i := 0) (k := 12) (j := 12) (by decide), e1, cl_s, gR_k K0.x.1, K0.ref (i := 0) (k := 4) (j := 4) (by decide), cv_k (show h_k (s_w h (Q 12) G) (Q 4) = 1 + 1 from h4.1), a1, cl_s]
  exact KE.go T0 m0 (KE.go T1 a3 this)
end
