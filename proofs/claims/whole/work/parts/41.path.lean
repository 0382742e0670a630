/-! the PATH -/
theorem steps_is (N : Nat) {A : Nat → Nat} {m : Nat} {h : hS} (M : MO A m h) (G : Nat → Nat → Int32) {C : Cs} (s : RS A m h G C) {c : Nat} (hc : c < 4) : f_M_steps N (w_i h G) m (iI c) = some (iI (C c).1, w_i h G) := by
  have m2 : (2, 50, 644) ∈ mrows := by decide
  have e := (s.2 c hc).1.2.2.2.1
  unfold f_M_steps
  rw [gR_at (M.wi G) m2, show (161 : Int32) = iI 161 from rfl, iI_mul, aI_iI ((M.wi G).ro m2) (by omega) (by omega) (by omega), h_i_wi, show ((161 : Int) * c).toNat = 161 * c by omega, e]
theorem stepAt_is (N : Nat) {A : Nat → Nat} {m : Nat} {h : hS} (M : MO A m h) (G : Nat → Nat → Int32) {c i w : Nat} (hc : c < 4) (hi : i < 40) (hw : w < 4) : f_M_stepAt N (w_i h G) m (iI c) (iI i) (iI w) = some (G (A 2) (161 * c + 1 + 4 * i + w), w_i h G) := by
  have m2 : (2, 50, 644) ∈ mrows := by decide
  unfold f_M_stepAt
  rw [gR_at (M.wi G) m2, show (161 : Int32) = iI 161 from rfl, show (1 : Int32) = iI 1 from rfl, show (4 : Int32) = iI 4 from rfl, iI_mul, iI_mul, iI_add, iI_add, iI_add, aI_iI ((M.wi G).ro m2) (by omega) (by omega) (by omega), h_i_wi, show ((161 : Int) * c + 1 + 4 * i + w).toNat = 161 * c + 1 + 4 * i + w by omega]
theorem RS.st {A : Nat → Nat} {m : Nat} {h : hS} {G : Nat → Nat → Int32} {C : Cs} (s : RS A m h G C) {c i : Nat} (hc : c < 4) (hi : i < (C c).1) : G (A 2) (161 * c + 1 + 4 * i) = iI ((C c).2.1 i).1 ∧ G (A 2) (161 * c + 1 + 4 * i + 1) = iI ((C c).2.1 i).2.1 ∧ G (A 2) (161 * c + 1 + 4 * i + 2) = iI ((C c).2.1 i).2.2 ∧ okArg ((C c).2.1 i).1 ((C c).2.1 i).2.1 ((C c).2.1 i).2.2 ∧ (((C c).2.1 i).1 = 8 → zInv ((C c).2.2 i)) ∧ (C c).1 ≤ 40 := by
  obtain ⟨hr, hn, hk, hnR, ⟨hlo, hlo2⟩, os, hos, os1, os2, hst⟩ := (s.2 c hc).1
  obtain ⟨p1, p2, p3, pk, t, pt, pY⟩ := hst i hi (by omega)
  have e : os = -1 := by
    have := s.1.2
    rw [hos] at this
    exact (iI_eq (by omega) (by omega)).mp this
  rw [if_neg (by omega)] at p3
  exact ⟨p1, p2, p3, pk, fun q => by obtain ⟨c, _, _, _, _, _, c7⟩ := pY q; exact c7, hn⟩
theorem RS.inv {A : Nat → Nat} {m : Nat} {h : hS} {G : Nat → Nat → Int32} {C : Cs} (s : RS A m h G C) {c : Nat} (hc : c < 4) : ∀ i, i ≤ (C c).1 → zInv (zT (C c).2.1 (C c).2.2 (-1) i) := by
  intro i
  induction i with
  | zero => intro _; exact zInv_0
  | succ i ih =>
    intro hi
    obtain ⟨_, _, _, pk, pY, _⟩ := s.st hc (i := i) (by omega)
    have hl : ¬ (i : Int) = -1 := by omega
    rcases (s.2 c hc).2 i (by omega) with q | q
    · exact absurd q hl
    · rw [zT_go hl] at q ⊢
      exact (zStep_sm (ih (by omega)) pk pY q.1).inv q.2
/-- one place back -/
def zBack (kd a b f t y : Int) : Int := if kd = 3 then y - a else if kd = 4 then zNear (y - b) (y + a) (zNear f t y) else if kd = 5 then min y (zNear f t y) else if kd = 6 then max y (zNear f t y) else y
/-- the place d STEPS ahead of the end -/
def zPd (p : Nat → Int × Int × Int) (Y : Nat → Nat → Int) (n : Nat) (x : Int) : Nat → Int
  | 0 => x
  | d + 1 => zBack (p (n - (d + 1))).1 (p (n - (d + 1))).2.1 (p (n - (d + 1))).2.2 (zTurn (zT p Y (-1) (n - (d + 1))) 0) (zTurn (zT p Y (-1) (n - (d + 1))) 1) (zPd p Y n x d)
theorem zTurn_v {Z : Nat → Int} (h : zVee Z) : zTurn Z 0 ≤ 5000 ∧ -5000 ≤ zTurn Z 1 := by
  have h1 := h.2.1
  have h2 := h.2.2
  constructor
  · rcases zTurn_spec Z 0 with q | q | ⟨j, j1, j2, j3, j4⟩ <;> omega
  · rcases zTurn_spec Z 1 with q | q | ⟨j, j1, j2, j3, j4⟩ <;> omega
theorem zNear_b {f t y B : Int} (hf : f ≤ 5000) (ht : -5000 ≤ t) (hB : 5000 ≤ B) (hy : -B ≤ y ∧ y ≤ B) : -B ≤ zNear f t y ∧ zNear f t y ≤ B := by
  unfold zNear
  split
  · omega
  · split <;> omega
theorem zBack_b {kd a b f t y B : Int} (hk : okArg kd a b) (hf : f ≤ 5000) (ht : -5000 ≤ t) (hB : 5000 ≤ B) (hy : -B ≤ y ∧ y ≤ B) : -(B + 500) ≤ zBack kd a b f t y ∧ zBack kd a b f t y ≤ B + 500 := by
  have g := zNear_b hf ht hB hy
  obtain ⟨k0, k1, k3, k4, k7⟩ := hk
  unfold zBack
  by_cases c3 : kd = 3
  · rw [if_pos c3]; have := k3 c3; omega
  rw [if_neg c3]
  by_cases c4 : kd = 4
  · rw [if_pos c4]
    have := k4 c4
    obtain ⟨w, hw⟩ : ∃ w, w = zNear f t y := ⟨_, rfl⟩
    rw [← hw] at g ⊢
    unfold zNear
    split
    · omega
    · split <;> omega
  rw [if_neg c4]
  by_cases c5 : kd = 5
  · rw [if_pos c5]; omega
  rw [if_neg c5]
  by_cases c6 : kd = 6
  · rw [if_pos c6]; omega
  rw [if_neg c6]; omega
theorem zPd_b {A : Nat → Nat} {m : Nat} {h : hS} {G : Nat → Nat → Int32} {C : Cs} (s : RS A m h G C) {c : Nat} (hc : c < 4) {x : Int} (hx : -100000 ≤ x ∧ x ≤ 100000) : ∀ d : Nat, d ≤ (C c).1 → -(100000 + 500 * (d : Int)) ≤ zPd (C c).2.1 (C c).2.2 (C c).1 x d ∧ zPd (C c).2.1 (C c).2.2 (C c).1 x d ≤ 100000 + 500 * (d : Int) := by
  intro d
  induction d with
  | zero => intro _; show -(100000 + 500 * ((0 : Nat) : Int)) ≤ x ∧ x ≤ _; omega
  | succ d ih =>
    intro hd
    have e := ih (by omega)
    have st := s.st hc (i := (C c).1 - (d + 1)) (by omega)
    have v := zTurn_v (s.inv hc ((C c).1 - (d + 1)) (by omega)).1
    have := zBack_b st.2.2.2.1 v.1 v.2 (B := 100000 + 500 * (d : Int)) (by omega) e
    rw [zPd]
    omega
/-- the row of the PATH, its places from i on written -/
def pRow (F : Nat → Int32) (v : Nat → Int) (n i k : Nat) : Int32 := if i ≤ k ∧ k ≤ n then iI (v (n - k)) else F k
theorem pRow_upd (F : Nat → Int32) (v : Nat → Int) {n i : Nat} (hi : i ≤ n) : upd (pRow F v n (i + 1)) i (iI (v (n - i))) = pRow F v n i := by
  funext k
  by_cases h : k = i
  · subst h; simp [upd, pRow, hi]
  · by_cases c : i + 1 ≤ k ∧ k ≤ n
    · have c2 : i ≤ k ∧ k ≤ n := by omega
      simp [upd, pRow, h, c, c2]
    · have c2 : ¬ (i ≤ k ∧ k ≤ n) := by omega
      unfold upd pRow
      rw [if_neg h, if_neg c, if_neg c2]
