section
variable {ρ : Nat → Nat} {A : Nat → Nat} {m : Nat} {h g u : hS} {F F' : FT}
/-- the reading row with a new step, its table not yet laid -/
def ptR (T : Nat → Int32) (n i : Nat) (kd a b : Int) : Nat → Int32 := upd (upd (upd (upd (inT T n (4 * i)) 0 (T 0 + 1)) (1 + 4 * i) (iI (zSt kd a b).1)) (2 + 4 * i) (iI (zSt kd a b).2.1)) (3 + 4 * i) (iI (zSt kd a b).2.2)
/-- from there on -/
def ptE (N : Nat) (h : hS) (m : Nat) (x1 x4 : Int32) (i : Nat) (kd : Int) : Option (Int32 × hS) := cv h (some m) 0 (fun a => f_M_forgetLaid N h a) fun _ h3 => gR h3 (some m) 0 18 fun v4 => if iI kd = (8 : Int32) then (cv h3 (some m) 0 (fun a => f_M_onTop N h3 a x4) fun v5 h6 => f_M_puts_248 N h6 m x1 v4 (iI ((4 + 4 * i : Nat) : Int)) v5) else (f_M_puts_248 N h3 m x1 v4 (iI ((4 + 4 * i : Nat) : Int)) (0 : Int32))
theorem puts120 (N : Nat) (M : MO A m h) (T : Nat → Int32) (x1 : Int32) {n i : Nat} (hn : n < 40) (hi : i ≤ n) {kd a b : Int} (hk : 0 ≤ kd ∧ kd ≤ 8) : ∀ (q fuel : Nat), q ≤ 4 * n - 4 * i → f_M_puts_120 N (q + (fuel + 1)) (s_w h (A 18) (inT T n (4 * i + q))) m x1 (iI i) (iI kd) (iI a) (iI b) (if kd ≤ 2 ∨ kd = 4 then 1 else 0) (iI ((4 * i + q : Nat) : Int)) = ptE N (s_w h (A 18) (ptR T n i kd a b)) m x1 (iI a) i kd := by
  have m18 : (18, 50, 644) ∈ mrows := by decide
  intro q
  induction q with
  | zero =>
    intro fuel _
    rw [Nat.zero_add]
    simp only [Nat.add_zero]
    have e1 : (1 : Int32) + ((4 : Int32) * iI (i : Int)) = iI ((1 + 4 * i : Nat) : Int) := by rw [show (4 : Int32) = iI 4 from rfl, iI_mul, show (1 : Int32) = iI 1 from rfl, iI_add]; rfl
    have e2 : (2 : Int32) + ((4 : Int32) * iI (i : Int)) = iI ((2 + 4 * i : Nat) : Int) := by rw [show (4 : Int32) = iI 4 from rfl, iI_mul, show (2 : Int32) = iI 2 from rfl, iI_add]; rfl
    have e3 : (3 : Int32) + ((4 : Int32) * iI (i : Int)) = iI ((3 + 4 * i : Nat) : Int) := by rw [show (4 : Int32) = iI 4 from rfl, iI_mul, show (3 : Int32) = iI 3 from rfl, iI_add]; rfl
    have e4 : (4 : Int32) + ((4 : Int32) * iI (i : Int)) = iI ((4 + 4 * i : Nat) : Int) := by rw [show (4 : Int32) = iI 4 from rfl, iI_mul, iI_add]; rfl
    have e4' : (4 : Int32) * iI (i : Int) = iI ((4 * i : Nat) : Int) := by rw [show (4 : Int32) = iI 4 from rfl, iI_mul]; rfl
    have uu : ∀ {β : Type} (T : Nat → Int32) (k : Nat) (v : Int32) (f : hS → Option β), k < 644 → uI (s_w h (A 18) T) (some (A 18)) (iI (k : Int)) v f = f (s_w h (A 18) (upd T k v)) := fun {β} T k v f hk => by
      rw [uI_iI (h := s_w h (A 18) T) (z := (k : Int)) ((M.sw _ _).ro (i := 18) (n := 644) m18) (by omega) (by omega) (by omega), Int.toNat_natCast, s_w_i]
    have t0 : inT T n (4 * i) 0 = T 0 := by unfold inT; rw [if_neg (by omega)]
    -- the two numbers
    have s218 : ∀ (R : Nat → Int32) (w : Int), f_M_puts_218 N (s_w h (A 18) R) m x1 (iI i) (iI kd) (iI a) (some (A 18)) (iI ((3 + 4 * i : Nat) : Int)) (iI w) = ptE N (s_w h (A 18) (upd R (3 + 4 * i) (iI w))) m x1 (iI a) i kd := fun R w => by
      unfold f_M_puts_218 f_M_puts_244 ptE
      rw [uu R _ _ _ (by omega), e4]
    have s197 : ∀ (R : Nat → Int32) (w : Int), f_M_puts_197 N (s_w h (A 18) R) m x1 (iI i) (iI kd) (iI a) (iI b) (if kd ≤ 2 ∨ kd = 4 then 1 else 0) (some (A 18)) (iI ((2 + 4 * i : Nat) : Int)) (iI w) = ptE N (s_w h (A 18) (upd (upd R (2 + 4 * i) (iI w)) (3 + 4 * i) (iI (zSt kd a b).2.2))) m x1 (iI a) i kd := fun R w => by
      unfold f_M_puts_197
      rw [uu R _ _ _ (by omega), gR_at (M.sw _ _) m18, e3]
      by_cases k2 : kd ≤ 2 ∨ kd = 4
      · rw [if_neg (show ¬ (if kd ≤ 2 ∨ kd = 4 then (1 : Int32) else 0) = 0 by rw [if_pos k2]; decide), s218]
        congr 4
        unfold zSt zNum
        simp only []
        rw [if_pos k2, if_pos rfl]
      · rw [if_pos (show (if kd ≤ 2 ∨ kd = 4 then (1 : Int32) else 0) = 0 by rw [if_neg k2])]
        refine (s218 _ 0).trans ?_
        congr 4
        unfold zSt zNum
        simp only []
        rw [if_neg k2, if_neg (by split <;> omega)]
    unfold f_M_puts_120
    rw [e4', if_pos (Int32.le_refl _), gR_at (M.sw _ _) m18]
    have a0 : ∀ {β : Type} (f : Int32 → Option β), aI (s_w h (A 18) (inT T n (4 * i))) 50 (some (A 18)) (0 : Int32) f = f (T 0) := fun {β} f => by
      rw [show (0 : Int32) = iI 0 from rfl, aI_iI (z := 0) ((M.sw _ _).ro (i := 18) (n := 644) m18) (by omega) (by omega) (by omega), show (0 : Int).toNat = 0 from rfl, h_i_sw, if_pos rfl, t0]
    rw [a0]
    refine (uu (inT T n (4 * i)) 0 (T 0 + 1) _ (by omega)).trans ?_
    rw [gR_at (M.sw _ _) m18, show (1 : Int32) + iI ((4 * i : Nat) : Int) = iI ((1 + 4 * i : Nat) : Int) by rw [← e4', e1], uu _ _ _ _ (by omega), gR_at (M.sw _ _) m18, show (2 : Int32) + iI ((4 * i : Nat) : Int) = iI ((2 + 4 * i : Nat) : Int) by rw [← e4', e2]]
    unfold f_M_puts_191
    by_cases k5 : kd = 5
    · rw [if_pos (show iI kd = (5 : Int32) by rw [k5]; rfl)]
      refine (s197 _ 0).trans ?_
      unfold ptR
      congr 4
      subst k5
      rfl
    rw [if_neg (show ¬ iI kd = (5 : Int32) from fun z => k5 ((iI_eq (b := 5) (by omega) (by omega)).mp z))]
    by_cases k6 : kd = 6
    · rw [if_pos (show iI kd = (6 : Int32) by rw [k6]; rfl)]
      refine (s197 _ 0).trans ?_
      unfold ptR
      congr 4
      subst k6
      rfl
    rw [if_neg (show ¬ iI kd = (6 : Int32) from fun z => k6 ((iI_eq (b := 6) (by omega) (by omega)).mp z)), s197]
    unfold ptR
    have f1 : (zSt kd a b).2.1 = a := by
      unfold zSt zNum
      simp only []
      by_cases k2 : kd ≤ 2 ∨ kd = 4
      · rw [if_pos k2, if_pos (by decide)]
      · rw [if_neg k2, if_pos (by rw [if_neg (by omega)]; decide)]
    rw [f1]
    rfl
  | succ q ih =>
    intro fuel hq
    rw [show q + 1 + (fuel + 1) = (q + (fuel + 1)) + 1 by omega]
    unfold f_M_puts_120
    have e4' : (4 : Int32) * iI (i : Int) = iI ((4 * i : Nat) : Int) := by rw [show (4 : Int32) = iI 4 from rfl, iI_mul]; rfl
    have ek : (4 : Int32) + iI ((4 * i + (q + 1) : Nat) : Int) = iI ((4 + (4 * i + (q + 1)) : Nat) : Int) := by rw [show (4 : Int32) = iI 4 from rfl, iI_add]; rfl
    have em : iI ((4 * i + (q + 1) : Nat) : Int) + (-1 : Int32) = iI ((4 * i + q : Nat) : Int) := by rw [show (-1 : Int32) = iI (-1) by decide, iI_add]; congr 1; omega
    rw [e4', if_neg (fun z => absurd ((iI_le (by omega) (by omega)).mp z) (by omega)), gR_at (M.sw _ _) m18, gR_at (M.sw _ _) m18, aI_iI (z := ((4 * i + (q + 1) : Nat) : Int)) ((M.sw _ _).ro (i := 18) (n := 644) m18) (by omega) (by omega) (by omega), Int.toNat_natCast, h_i_sw, if_pos rfl, show inT T n (4 * i + (q + 1)) (4 * i + (q + 1)) = T (4 * i + (q + 1)) by unfold inT; rw [if_neg (by omega)], ek, uI_iI (z := ((4 + (4 * i + (q + 1)) : Nat) : Int)) ((M.sw _ _).ro (i := 18) (n := 644) m18) (by omega) (by omega) (by omega), Int.toNat_natCast, s_w_i, inT_u T (by omega) (by omega), show 4 * i + (q + 1) - 1 = 4 * i + q by omega, bn_i, em]
    exact ih fuel (by omega)
theorem RX.pre' {ρ' : Nat → Nat} {α : Type} {ans : α} {code : Int32} {r : Option (α × hS)} (t : tr ρ h (rg 300) ρ' g) (p : hm g + pTb A g ≤ hm h + pTb A h) (Y : RX ρ' A m g ans F' code r) : RX ρ A m h ans F' code r := by
  obtain ⟨ρ'', u, e1, e2, e3, e4, e5⟩ := Y
  exact ⟨ρ'', u, e1, e2, t.trans e3, by omega, e5⟩
/-- what stands in the reading row: all but the new step's table -/
theorem ptR_at (T : Nat → Int32) {n i : Nat} (hi : i ≤ n) (kd a b : Int) : ptR T n i kd a b 0 = T 0 + 1 ∧ (∀ j k, j ≤ n → k < 4 → j ≠ i → ptR T n i kd a b (0 + 1 + 4 * j + k) = T (0 + 1 + 4 * (if j < i then j else j - 1) + k)) ∧ (ptR T n i kd a b (0 + 1 + 4 * i) = iI (zSt kd a b).1 ∧ ptR T n i kd a b (0 + 1 + 4 * i + 1) = iI (zSt kd a b).2.1 ∧ ptR T n i kd a b (0 + 1 + 4 * i + 2) = iI (zSt kd a b).2.2) := by
  refine ⟨?_, fun j k hj hk hne => ?_, ?_, ?_, ?_⟩
  · unfold ptR
    rw [upd_o (by omega), upd_o (by omega), upd_o (by omega), upd_a]
  · unfold ptR
    rw [upd_o (by omega), upd_o (by omega), upd_o (by omega), upd_o (by omega)]
    unfold inT
    by_cases e : j < i
    · rw [if_neg (by omega), if_pos e]
    · rw [if_pos ⟨by omega, by omega⟩, if_neg e]; congr 1; omega
  · unfold ptR
    rw [upd_o (by omega), upd_o (by omega), show 0 + 1 + 4 * i = 1 + 4 * i by omega, upd_a]
  · unfold ptR
    rw [upd_o (by omega), show 0 + 1 + 4 * i + 1 = 2 + 4 * i by omega, upd_a]
  · unfold ptR
    rw [show 0 + 1 + 4 * i + 2 = 3 + 4 * i by omega, upd_a]
theorem puts_M (N : Nat) (hN : 30000 ≤ N) (X : RM ρ A m h F) {c i kd a b : Int} (hc : i32 c) (hi : i32 i) (hk : i32 kd) (ha : i32 a) (hb : i32 b) : (putOk F.1.1 c i kd a b → RX ρ A m h (iI (((F.1.1 c.toNat).1 + 1 : Nat) : Int)) (actS F.1 c.toNat (putX F.1.1 c.toNat i.toNat kd a b), F.2) 0 (f_M_puts N h m (iI c) (iI i) (iI kd) (iI a) (iI b))) ∧ (¬ putOk F.1.1 c i kd a b → RX ρ A m h (-1 : Int32) (rfS F.1 1, F.2) 0 (f_M_puts N h m (iI c) (iI i) (iI kd) (iI a) (iI b))) := by
  obtain ⟨X1, c1⟩ := X.code 0
  have M1 := X1.1.1
  have v := X.2.2.2.2.1.2
  have m18 : (18, 50, 644) ∈ mrows := by decide
  have m2 : (2, 50, 644) ∈ mrows := by decide
  have m16 : (16, 50, 4) ∈ mrows := by decide
  have no : f_M_puts N h m (iI c) (iI i) (iI kd) (iI a) (iI b) = f_M_puts_50 N (s_i h m 1 0) m → RX ρ A m h (-1 : Int32) (rfS F.1 1, F.2) 0 (f_M_puts N h m (iI c) (iI i) (iI kd) (iI a) (iI b)) := fun e => by
    obtain ⟨g, b1, b2, b3, b4⟩ := refM_is N X1 (k := 1) (by omega)
    refine X.x (c1.trans b2) b3 ?_ (by rw [b4]; exact code_a h m 0)
    rw [e]
    unfold f_M_puts_50
    rw [cv_at M1, show (1 : Int32) = iI ((1 : Nat) : Int) from rfl, b1, cl_s]
    rfl
  by_cases h1 : 0 ≤ c ∧ c ≤ 3
  · obtain ⟨n1, n2⟩ := n4 h1
    have vc := v.1 c.toNat n1
    have h40 := vc.1
    have st := stepsM N X1 n1
    rw [n2] at st
    have e1 : f_M_puts N h m (iI c) (iI i) (iI kd) (iI a) (iI b) = if (if 0 ≤ i ∧ i ≤ ((F.1.1 c.toNat).1 : Int) then (1 : Int32) else 0) = (0 : Int32) then (f_M_puts_50 N (s_i h m 1 0) m) else (cl (f_M_isStepTold N (s_i h m 1 0) (iI c) (iI kd) (iI a) (iI b)) fun v8 h9 => if v8 = (0 : Int32) then (f_M_puts_50 N h9 m) else (cv h9 (some m) 0 (fun a => f_M_steps N h9 a (iI c)) fun v10 h11 => if v10 = (40 : Int32) then (f_M_puts_50 N h11 m) else (if iI kd ≤ (2 : Int32) then (f_M_puts_66 N h11 m (iI c) (iI i) (iI kd) (iI a) (iI b)) else (if iI kd = (4 : Int32) then (f_M_puts_66 N h11 m (iI c) (iI i) (iI kd) (iI a) (iI b)) else (f_M_puts_71 N h11 m (iI c) (iI i) (iI kd) (iI a) (iI b) (0 : Int32)))))) := by
      unfold f_M_puts
      rw [pI_at X.1.1, cv_at M1, isCost_y N _ _ h1, cl_s, if_neg (by decide), cv_at M1, st, cl_s, show (0 : Int64) = lI 0 from rfl, show (iI ((F.1.1 c.toNat).1 : Int)).toInt64 = lI ((F.1.1 c.toNat).1 : Int) from iI_l (by omega) (by omega), inI N _ hi (by omega) (by omega), cl_s]
    by_cases h2 : 0 ≤ i ∧ i ≤ ((F.1.1 c.toNat).1 : Int)
    · rw [if_neg (show ¬ (if 0 ≤ i ∧ i ≤ ((F.1.1 c.toNat).1 : Int) then (1 : Int32) else 0) = 0 by rw [if_pos h2]; decide)] at e1
      obtain ⟨w, w1, w2, w3⟩ := told_st N (s_i h m 1 0) hc hk ha hb
      rw [w1, cl_s] at e1
      by_cases h3 : (0 ≤ kd ∧ kd ≤ 8) ∧ okNum kd a b ∧ ¬ (kd = 8 ∧ a = c)
      · rw [if_neg (show ¬ w = 0 by rw [w2 h3]; decide), cv_at M1, st, cl_s] at e1
        by_cases h4 : (F.1.1 c.toNat).1 < 40
        · rw [if_neg (show ¬ iI ((F.1.1 c.toNat).1 : Int) = (40 : Int32) from fun z => by have := (iI_eq (b := 40) (by omega) (by omega)).mp z; omega)] at e1
          obtain ⟨hkd, hnum, hown⟩ := h3
          have tl : tellable F.1.1 c kd a b := ⟨h1, hkd, hnum, hown, h4⟩
          have h2' : 0 ≤ i ∧ i ≤ (F.1.1 c.toNat).1 := h2
          obtain ⟨n, hn⟩ : ∃ n, n = (F.1.1 c.toNat).1 := ⟨_, rfl⟩
          obtain ⟨ii, hii⟩ : ∃ ii, ii = i.toNat := ⟨_, rfl⟩
          have ei : i = (ii : Int) := by omega
          have il : ii ≤ n := by omega
          obtain ⟨R2, X2, f2, nm2⟩ := read_now X1 n1
          obtain ⟨T, hT⟩ : ∃ T, T = rdT (h_i (s_i h m 1 0) (A 18)) (h_i (s_i h m 1 0) (A 2)) c.toNat 161 := ⟨_, rfl⟩
          rw [← hT] at R2 X2 f2 nm2
          have h18 : h_i (s_w (s_i h m 1 0) (A 18) T) (A 18) = T := by rw [h_i_sw, if_pos rfl]
          obtain ⟨r1, r2, r3⟩ := R2
          rw [h18] at r1 r3
          rw [← hn] at r1 r3 h4 ⊢
          have e76 : f_M_puts N h m (iI c) (iI i) (iI kd) (iI a) (iI b) = f_M_puts_76 N N (s_i h m 1 0) m (iI c) (iI i) (iI kd) (iI a) (iI b) (if kd ≤ 2 ∨ kd = 4 then 1 else 0) (0 : Int32) := by
            rw [e1]
            unfold f_M_puts_66 f_M_puts_71
            by_cases k2 : kd ≤ 2
            · rw [if_pos (show iI kd ≤ (2 : Int32) from (iI_le (b := 2) (by omega) (by omega)).mpr k2), if_pos (Or.inl k2)]
            · rw [if_neg (show ¬ iI kd ≤ (2 : Int32) from fun z => k2 ((iI_le (b := 2) (by omega) (by omega)).mp z))]
              by_cases k4 : kd = 4
              · rw [if_pos (show iI kd = (4 : Int32) by rw [k4]; rfl), if_pos (Or.inr k4)]
              · rw [if_neg (show ¬ iI kd = (4 : Int32) from fun z => k4 ((iI_eq (b := 4) (by omega) (by omega)).mp z)), if_neg (fun z => z.elim k2 k4)]
          have l1 := puts76 N M1 n1 (iI i) (iI kd) (iI a) (iI b) (if kd ≤ 2 ∨ kd = 4 then 1 else 0) 161 0 (N - 162) (by omega)
          rw [rdT_0, s_w_self, show 161 + (N - 162 + 1) = N by omega, n2, ← hT, r1] at l1
          have l2 := puts120 N M1 T (iI c) (i := ii) h4 il (a := a) (b := b) hkd (4 * n - 4 * ii) (N - (4 * n - 4 * ii) - 1) (Nat.le_refl _)
          rw [show 4 * ii + (4 * n - 4 * ii) = 4 * n by omega, inT_0, show 4 * n - 4 * ii + (N - (4 * n - 4 * ii) - 1 + 1) = N by omega] at l2
          have e3 : f_M_puts N h m (iI c) (iI i) (iI kd) (iI a) (iI b) = ptE N (s_w (s_i h m 1 0) (A 18) (ptR T n ii kd a b)) m (iI c) (iI a) ii kd := by
            rw [e76]
            refine (show f_M_puts_76 N N (s_i h m 1 0) m (iI c) (iI i) (iI kd) (iI a) (iI b) (if kd ≤ 2 ∨ kd = 4 then 1 else 0) (0 : Int32) = _ from l1).trans ?_
            rw [show (4 : Int32) * iI (n : Int) = iI ((4 * n : Nat) : Int) by rw [show (4 : Int32) = iI 4 from rfl, iI_mul]; rfl, ei]
            exact l2
          obtain ⟨p0, p1, p2, p3, p4⟩ := ptR_at T il kd a b
          have f3 := frM.w (h := s_i h m 1 0) (X.mne m18 (by decide)) (ptR T n ii kd a b)
          obtain ⟨X3, _, _⟩ := X1.fr f3
          have ho3 : ∀ (t : Int) Y, onB A (s_w (s_i h m 1 0) (A 18) T) (h_i (s_w (s_i h m 1 0) (A 18) T)) t Y → onB A (s_w (s_i h m 1 0) (A 18) (ptR T n ii kd a b)) (h_i (s_w (s_i h m 1 0) (A 18) (ptR T n ii kd a b))) t Y := by
            have cc : chM A m (s_w (s_i h m 1 0) (A 18) T) (s_w (s_w (s_i h m 1 0) (A 18) T) (A 18) (ptR T n ii kd a b)) := chM.rf.w (m_na 18 m18) _
            have := (X2.ch cc).2.2.2.1
            rw [s_w_w] at this
            exact this
          obtain ⟨h3', hh3⟩ : ∃ q, q = s_w (s_i h m 1 0) (A 18) (ptR T n ii kd a b) := ⟨_, rfl⟩
          have i18 : h_i h3' (A 18) = ptR T n ii kd a b := by rw [hh3, h_i_sw, if_pos rfl]
          have i2 : h_i h3' (A 2) = h_i (s_i h m 1 0) (A 2) := by rw [hh3, h_i_sw, if_neg (X.nn m2 m18 (by decide))]
          have im3 : h_i h3' m 1 = 0 := by rw [hh3, h_i_sw, if_neg (Ne.symm (X.mne m18 (by decide)))]; exact code_a h m 0
          rw [← hh3] at X3 f3 ho3 e3
          obtain ⟨h5, a1, a2, a3, a4, a5, a6⟩ := forgetL_is N (by omega) X3
          have ho5 := (X3.ch a2.c).2.2.2.1
          have T0 : T 0 + 1 = iI ((n + 1 : Nat) : Int) := by rw [r1, show (1 : Int32) = iI 1 from rfl, iI_add]; rfl
          have M5 := a3.1.1
          have j18 : h_i h5 (A 18) = ptR T n ii kd a b := by rw [a5 _ (X.nn m18 m16 (by decide)), i18]
          have j2 : h_i h5 (A 2) = h_i (s_i h m 1 0) (A 2) := by rw [a5 _ (X.nn m2 m16 (by decide)), i2]
          have jm : h_i h5 m 1 = 0 := by rw [a5 _ (Ne.symm (X.mne m16 (by decide))), im3]
          -- the last: the table's number comes in, and the row is taken over
          have fin : ∀ (ρ' : Nat → Nat) (h6 : hS) (t : Nat), RM ρ' A m h6 F → tr ρ h (rg 300) ρ' h6 → hm h6 + pTb A h6 ≤ hm h + pTb A h → h_i h6 (A 18) = ptR T n ii kd a b → h_i h6 (A 2) = h_i (s_i h m 1 0) (A 2) → h_i h6 m 1 = 0 → t < 1000 → (kd = 8 → onB A h6 (h_i h6) t (zC F.1.1 a.toNat)) → (∀ (t : Int) Y, onB A h5 (h_i h5) t Y → (∃ j, j < n ∧ T (0 + 1 + 4 * j) = 8 ∧ T (0 + 1 + 4 * j + 3) = iI t) → onB A h6 (h_i h6) t Y) → f_M_puts N h m (iI c) (iI i) (iI kd) (iI a) (iI b) = f_M_puts_248 N h6 m (iI c) (some (A 18)) (iI ((4 + 4 * ii : Nat) : Int)) (iI t) → (putOk F.1.1 c i kd a b → RX ρ A m h (iI ((n + 1 : Nat) : Int)) (actS F.1 c.toNat (putX F.1.1 c.toNat ii kd a b), F.2) 0 (f_M_puts N h m (iI c) (iI i) (iI kd) (iI a) (iI b))) ∧ (¬ putOk F.1.1 c i kd a b → RX ρ A m h (-1 : Int32) (rfS F.1 1, F.2) 0 (f_M_puts N h m (iI c) (iI i) (iI kd) (iI a) (iI b))) := fun ρ' h6 t X6 t6 q6 k18 k2 km ht hon hob e6 => by
            have M6 := X6.1.1
            have f7 : frM A m h6 (s_i h6 (A 18) (4 + 4 * ii) (iI t)) := frM.row (by decide) (X.mne m18 (by decide)) _
            obtain ⟨X7, t7, hm7⟩ := X6.fr f7
            have ho7 := (X6.ch f7.c).2.2.2.1
            have l18 : h_i (s_i h6 (A 18) (4 + 4 * ii) (iI t)) (A 18) = upd (ptR T n ii kd a b) (4 + 4 * ii) (iI t) := by rw [h_i_si, if_pos rfl, k18]
            have Rx : R1 A (s_i h6 (A 18) (4 + 4 * ii) (iI t)) (A 18) 0 (putX F.1.1 c.toNat ii kd a b) := by
              refine ⟨by rw [l18, upd_o (by omega), p0, T0]; show _ = iI (((F.1.1 c.toNat).1 + 1 : Nat) : Int); rw [← hn], by show (F.1.1 c.toNat).1 + 1 ≤ 40; omega, fun j hj => ?_⟩
              have hj' : j < n + 1 := by rw [hn]; exact hj
              rw [l18]
              show _ = iI (ins (F.1.1 c.toNat).2.1 ii (zSt kd a b) j).1 ∧ _ = iI (ins (F.1.1 c.toNat).2.1 ii (zSt kd a b) j).2.1 ∧ _ = iI (ins (F.1.1 c.toNat).2.1 ii (zSt kd a b) j).2.2 ∧ ∃ t' : Int, _ = iI t' ∧ ((ins (F.1.1 c.toNat).2.1 ii (zSt kd a b) j).1 = 8 → onB A (s_i h6 (A 18) (4 + 4 * ii) (iI t)) (h_i (s_i h6 (A 18) (4 + 4 * ii) (iI t))) t' (ins (F.1.1 c.toNat).2.2 ii (zC F.1.1 a.toNat) j))
              by_cases e : j = ii
              · subst e
                rw [ins_at, ins_at, upd_o (by omega), upd_o (by omega), upd_o (by omega)]
                exact ⟨p2, p3, p4, (t : Int), by rw [show 0 + 1 + 4 * j + 3 = 4 + 4 * j by omega, upd_a], fun q => ho7 _ _ (hon q)⟩
              · have ej : ∀ {α : Type} (f : Nat → α) (y : α), ins f ii y j = f (if j < ii then j else j - 1) := fun {α} f y => by
                  by_cases z : j < ii
                  · rw [ins_lt z, if_pos z]
                  · rw [ins_gt (by omega), if_neg z]
                rw [ej, ej, upd_o (by omega), upd_o (by omega), upd_o (by omega), upd_o (by omega)]
                have w0 := p1 j 0 (by omega) (by omega) e
                have w1 := p1 j 1 (by omega) (by omega) e
                have w2 := p1 j 2 (by omega) (by omega) e
                have w3 := p1 j 3 (by omega) (by omega) e
                simp only [Nat.add_zero] at w0
                rw [w0, w1, w2, w3]
                have jl : (if j < ii then j else j - 1) < n := by split <;> omega
                obtain ⟨b1, b2, b3, t', b4, b5⟩ := r3 _ jl
                refine ⟨b1, b2, b3, t', b4, fun q => ho7 _ _ (hob t' _ (ho5 _ _ (ho3 _ _ (b5 q))) ⟨_, jl, by rw [b1, q]; rfl, b4⟩)⟩
            have nm7 : ∀ t', t' < 1000 → nm1 (s_i h6 (A 18) (4 + 4 * ii) (iI t)) (A 18) 0 t' → nmd (s_i h6 (A 18) (4 + 4 * ii) (iI t)) (A 2) 0 t' ∨ t' ∈ [t] := fun t' ht' q => by
              obtain ⟨j, j1, j2, j3, j4⟩ := q
              rw [l18] at j2 j3 j4
              rw [upd_o (by omega), p0, T0, iI_toInt (by omega) (by omega)] at j2
              by_cases e : j = ii
              · right
                subst e
                rw [show 0 + 1 + 4 * j + 3 = 4 + 4 * j by omega, upd_a] at j4
                have := (iI_eq (by omega) (by omega)).mp j4
                rw [List.mem_singleton]; omega
              · left
                rw [upd_o (by omega)] at j3 j4
                have w0 := p1 j 0 (by omega) (by omega) e
                have w3 := p1 j 3 (by omega) (by omega) e
                simp only [Nat.add_zero] at w0
                rw [w0] at j3
                rw [w3] at j4
                have jl : (if j < ii then j else j - 1) < n := by split <;> omega
                have key := nm2 t' ⟨(if j < ii then j else j - 1), by omega, by rw [h18, r1, iI_toInt (by omega) (by omega)]; omega, by rw [h18]; exact j3, by rw [h18]; exact j4⟩
                refine (nmd.cg (fun p _ => ?_)).mpr key
                rw [h_i_si, if_neg (X.nn m2 m18 (by decide)), k2]
            obtain ⟨by_, bn_⟩ := becomes_M N hN X7 n1 Rx (fun j hj => by
              have hj' : j < (F.1.1 c.toNat).1 + 1 := hj
              show okArg (ins (F.1.1 c.toNat).2.1 ii (zSt kd a b) j).1 (ins (F.1.1 c.toNat).2.1 ii (zSt kd a b) j).2.1 (ins (F.1.1 c.toNat).2.1 ii (zSt kd a b) j).2.2
              rcases Nat.lt_trichotomy j ii with e | e | e
              · rw [ins_lt e]; exact vc.arg j (by omega)
              · rw [e, ins_at]; exact hnum.arg hkd
              · rw [ins_gt e]; exact vc.arg (j - 1) (by omega)) (fun o => vC_put v.1 n1 (by rw [← hn]; exact h4) (by rw [← hn]; exact il) hkd hnum o) (D0 := [t]) (by simp) nm7
            have k0 : h_i (s_i h6 (A 18) (4 + 4 * ii) (iI t)) m 1 = 0 := by rw [h_i_si, if_neg (Ne.symm (X.mne m18 (by decide))), km]
            rw [k0, n2] at by_ bn_
            have e7 : f_M_puts N h m (iI c) (iI i) (iI kd) (iI a) (iI b) = (cv (s_i h6 (A 18) (4 + 4 * ii) (iI t)) (some m) 0 (fun a => f_M_becomes N (s_i h6 (A 18) (4 + 4 * ii) (iI t)) a (iI c)) fun v2 h3 => some (v2, h3)) := by
              rw [e6]
              unfold f_M_puts_248
              rw [uI_iI (z := ((4 + 4 * ii : Nat) : Int)) (M6.ro (i := 18) (n := 644) m18) (by omega) (by omega) (by omega), Int.toNat_natCast]
            have pb : pTb A (s_i h6 (A 18) (4 + 4 * ii) (iI t)) = pTb A h6 := rfl
            constructor
            · intro q
              obtain ⟨ρ9, u, u1, u2⟩ := RX.pre' (t6.trans t7) (by rw [pb, hm7]; exact q6) (by_ (by rw [hii]; exact q.2.2))
              refine ⟨ρ9, u, ?_, u2⟩
              rw [e7, cv_at X7.1.1, u1, cl_s]
              show some (iI (((F.1.1 c.toNat).1 + 1 : Nat) : Int), u) = _
              rw [← hn]
            · intro q
              obtain ⟨ρ9, u, u1, u2⟩ := RX.pre' (t6.trans t7) (by rw [pb, hm7]; exact q6) (bn_ (fun z => q ⟨tl, h2', by rw [← hii]; exact z⟩))
              refine ⟨ρ9, u, ?_, u2⟩
              rw [e7, cv_at X7.1.1, u1, cl_s]
          rw [← hii]
          have t5 : tr ρ h (rg 300) ρ h5 := ((X.ch c1).1.trans (X1.ch f3.c).1).trans (X3.ch a2.c).1
          have hm5 : hm h5 = hm h := by rw [(X3.fr a2).2.2, (X1.fr f3).2.2]; rfl
          have pb5 : pTb A h5 = pTb A h := by unfold pTb; rw [a2.1.2.2.1, f3.1.2.2.1]; rfl
          by_cases k8 : kd = 8
          · have a3' := tl.a8 k8
            obtain ⟨na1, na2⟩ := n4 a3'
            obtain ⟨ρ6, h6, t, o1, o2, o3, o4, o5, o6, o7, o8, o9, o10, o11⟩ := onTop_M N hN a3 a4 na1
            rw [na2] at o1
            refine fin ρ6 h6 t o2 (t5.trans o3) (by rw [← hm5, ← pb5]; exact o4) (by rw [o10.2.1, j18]) (by rw [o10.1, j2]) (by rw [o11 1 (by decide) (by decide) (by decide), jm]) o5 (fun _ => o6) (fun t' Y O hq => ?_) ?_
            · -- tables named by the row stay: they are named
              obtain ⟨j, j1, j2', j3⟩ := hq
              have rng : 0 ≤ t' ∧ t' < 1000 := by obtain ⟨_, z, _⟩ := O; exact z
              have key := nm2 t'.toNat ⟨j, by omega, by rw [h18, r1, iI_toInt (by omega) (by omega)]; omega, by rw [h18]; exact j2', by rw [h18, j3, show ((t'.toNat : Nat) : Int) = t' by omega]⟩
              refine o8 t' Y (Or.inr ((nmd.cg (fun p _ => ?_)).mpr key)) rng O
              rw [j2]
            · rw [e3]
              unfold ptE
              rw [cv_at X3.1.1, a1, cl_s, gR_at M5 m18, if_pos (show iI kd = (8 : Int32) by rw [k8]; rfl), cv_at M5, o1, cl_s]
          · refine fin ρ h5 0 a3 t5 (by rw [hm5, pb5]; exact Nat.le_refl _) j18 j2 jm (by omega) (fun z => absurd z k8) (fun _ _ O _ => O) ?_
            rw [e3]
            unfold ptE
            rw [cv_at X3.1.1, a1, cl_s, gR_at M5 m18, if_neg (show ¬ iI kd = (8 : Int32) from fun z => k8 ((iI_eq (b := 8) (by omega) (by omega)).mp z))]
            rfl
        · refine ⟨fun q => absurd q.1.2.2.2.2 h4, fun _ => no ?_⟩
          rw [e1, if_pos (show iI ((F.1.1 c.toNat).1 : Int) = (40 : Int32) by rw [show (F.1.1 c.toNat).1 = 40 by omega]; rfl)]
      · refine ⟨fun q => absurd ⟨q.1.2.1, q.1.2.2.1, q.1.2.2.2.1⟩ h3, fun _ => no ?_⟩
        rw [e1, if_pos (show w = 0 from w3 h3)]
    · refine ⟨fun q => absurd q.2.1 h2, fun _ => no ?_⟩
      rw [e1, if_pos (show (if 0 ≤ i ∧ i ≤ ((F.1.1 c.toNat).1 : Int) then (1 : Int32) else 0) = 0 by rw [if_neg h2])]
  · refine ⟨fun q => absurd q.1.1 h1, fun _ => no ?_⟩
    unfold f_M_puts
    rw [pI_at X.1.1, cv_at M1, isCost_n N _ _ hc h1, cl_s, if_pos rfl]
end
