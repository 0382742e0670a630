/-! what each step does to the values -/
theorem zF_shift (φ : Int → Int) (Z : Nat → Int) (d : Int) : ∀ (q s : Nat), zF φ (dlist Z d q s) = zF (fun p => φ (p + d)) (dlist Z 0 q s) := by
  intro q
  induction q with
  | zero => intro s; rfl
  | succ q ih =>
    intro s
    rw [dlist, dlist, zF, zF, ih]
    show Z (2 + s) * φ ((s : Int) - 5000 + d) + _ = Z (2 + s) * φ ((s : Int) - 5000 + 0 + d) + _
    rw [show (s : Int) - 5000 + 0 + d = (s : Int) - 5000 + d by omega]
theorem zWide_mem : ∀ {L : List (Int × Int)}, zWide L = false → ∀ e ∈ L, e.2 ≠ 0 → -5000 ≤ e.1 ∧ e.1 ≤ 5000 := by
  intro L
  induction L with
  | nil => intro _ e he; simp at he
  | cons a L ih =>
    intro h e he h0
    rw [zWide, Bool.or_eq_false_iff] at h
    rcases List.mem_cons.mp he with q | q
    · subst q
      have h1 := h.1
      by_cases c : -5000 ≤ e.1 ∧ e.1 ≤ 5000
      · exact c
      · exfalso
        simp [c, h0] at h1
    · exact ih h.2 e q h0
theorem dlist_mem {Z : Nat → Int} {d : Int} : ∀ {q s : Nat} {e : Int × Int}, e ∈ dlist Z 0 q s → (e.1 + d, e.2) ∈ dlist Z d q s := by
  intro q
  induction q with
  | zero => intro s e he; simp [dlist] at he
  | succ q ih =>
    intro s e he
    rw [dlist] at he ⊢
    rcases List.mem_cons.mp he with h | h
    · rw [h]
      show (((s : Int) - 5000 + 0 + d), Z (2 + s)) ∈ _
      rw [show (s : Int) - 5000 + 0 + d = (s : Int) - 5000 + d by omega]
      exact List.mem_cons_self
    · exact List.mem_cons_of_mem _ (ih h)
theorem zF_zero (L : List (Int × Int)) : zF (fun _ => 0) L = 0 := by
  induction L with
  | nil => rfl
  | cons e L ih => rw [zF, ih, Int.mul_zero]; rfl
theorem zF_null {φ : Int → Int} (L : List (Int × Int)) (h : ∀ e ∈ L, e.2 ≠ 0 → φ e.1 = 0) : zF φ L = 0 := by
  rw [zF_congr (ψ := fun _ => 0) L h, zF_zero]
theorem zDrift_L (φ : Int → Int) {Z : Nat → Int} {d : Int} (hw : zWide (dlist Z d 10001 0) = false) : zF φ (zL (zDrift Z d)) = zF (fun p => φ (p + d)) (zL Z) := by
  have e : zL (zDrift Z d) = zL (zCo (dlist Z d 10001 0)) := zL_congr (fun k h1 h2 => by
    rw [zCo_dlist Z d 10001 0 k (by omega)]
    unfold zDrift
    rw [if_neg (by omega), if_neg (by omega)]
    by_cases c : 2 ≤ (k : Int) - d ∧ (k : Int) - d ≤ 10002
    · rw [if_pos c, if_pos (by omega)]
    · rw [if_neg c, if_neg (by omega)])
  rw [e, zF_tab φ _ hw, zF_shift]
  rfl
theorem zDrift_val {Z : Nat → Int} {d : Int} (hw : zWide (dlist Z d 10001 0) = false) (x : Int) : zVal (zDrift Z d) x = zVal Z (x - d) := by
  have n : zF (fun p => max (-5000 - d - p) 0) (zL Z) = 0 := zF_null _ (fun e he h0 => by
    have := zWide_mem hw _ (dlist_mem (d := d) he) h0
    show max (-5000 - d - e.1) 0 = 0
    have h1 : -5000 ≤ e.1 + d := this.1
    omega)
  have e1 : zDrift Z d 1 = Z 1 + Z 0 * (-5000 - d + 5000) := by
    show zVal Z (-5000 - d) = _
    rw [zVal_form, n]; omega
  have e0 : zDrift Z d 0 = Z 0 := rfl
  have e2 : zF (fun p => max (x - (p + d)) 0) (zL Z) = zF (fun p => max (x - d - p) 0) (zL Z) := by
    congr 1
    funext p
    rw [show x - (p + d) = x - d - p by omega]
  rw [zVal_form, zVal_form, zDrift_L _ hw, e1, e0, e2, show x - d + 5000 = (-5000 - d + 5000) + (x + 5000) by omega]
  have := Int.mul_add (Z 0) (-5000 - d + 5000) (x + 5000)
  omega
/-- the part that falls, the part that rises -/
def zB (Z : Nat → Int) (k : Nat) : Int := zBel Z (k - 2)
def zA (Z : Nat → Int) (k : Nat) : Int := Z k - zBel Z (k - 2)
theorem zBA (φ : Int → Int) (Z : Nat → Int) : zF φ (zL Z) = zF φ (zL (zB Z)) + zF φ (zL (zA Z)) := by
  have := zF_plus φ (zB Z) (zA Z) 0 10001 0
  rw [show (fun k => zB Z k + zA Z k) = Z by funext k; unfold zB zA; omega] at this
  exact this
theorem plist_F (φ : Int → Int) (Z : Nat → Int) (dn up : Int) (fa ri : Bool) : ∀ (q s : Nat), zF φ (plist Z dn up fa ri q s) = (if fa then zF (fun p => φ (p - dn)) (dlist (zB Z) 0 q s) else 0) + (if ri then zF (fun p => φ (p + up)) (dlist (zA Z) 0 q s) else 0) := by
  intro q
  induction q with
  | zero => intro s; cases fa <;> cases ri <;> rfl
  | succ q ih =>
    intro s
    have b : zB Z (2 + s) = zBel Z s := by unfold zB; rw [show 2 + s - 2 = s by omega]
    have a : zA Z (2 + s) = Z (2 + s) - zBel Z s := by unfold zA; rw [show 2 + s - 2 = s by omega]
    rw [plist, zF_app, zF_app, ih (s + 1)]
    cases fa <;> cases ri <;> simp [dlist, zF, pfall, prise, a, b] <;> omega
theorem zBel_tel (Z : Nat → Int) (h : zNn Z) : ∀ (q s : Nat), s + q = 10001 → zSum (dlist (zB Z) 0 q s) = min 0 (zS Z 10001) - min 0 (zS Z s) := by
  intro q
  induction q with
  | zero => intro s hs; rw [show s = 10001 by omega]; simp [dlist, zSum]
  | succ q ih =>
    intro s hs
    have b : zB Z (2 + s) = zBel Z s := by unfold zB; rw [show 2 + s - 2 = s by omega]
    have w := h (2 + s) (by omega) (by omega)
    have e : zS Z (s + 1) = zS Z s + Z (2 + s) := by rw [zS, zW, if_pos (by omega)]
    rw [dlist, zSum, ih (s + 1) (by omega)]
    show zB Z (2 + s) + _ = _
    rw [b]
    unfold zBel
    omega
theorem zB_sum {Z : Nat → Int} (h : zVee Z) : zF (fun _ => 1) (zL (zB Z)) = -Z 0 := by
  rw [zF_one]
  have := zBel_tel Z h.1 10001 0 (by omega)
  have e : zS Z 0 = Z 0 := rfl
  have h1 := h.2.1
  have h2 := h.2.2
  unfold zL
  omega
theorem zL_mem {Z : Nat → Int} {e : Int × Int} : ∀ {q s : Nat}, e ∈ dlist Z 0 q s → ∃ j : Nat, s ≤ j ∧ j < s + q ∧ e = ((j : Int) - 5000 + 0, Z (2 + j)) := by
  intro q
  induction q with
  | zero => intro s he; simp [dlist] at he
  | succ q ih =>
    intro s he
    rw [dlist] at he
    rcases List.mem_cons.mp he with h | h
    · exact ⟨s, by omega, by omega, h⟩
    · obtain ⟨j, h1, h2, h3⟩ := ih h
      exact ⟨j, by omega, by omega, h3⟩
theorem zB_mem {Z : Nat → Int} {e : Int × Int} (he : e ∈ zL (zB Z)) : ∃ j : Nat, j < 10001 ∧ e.1 = (j : Int) - 5000 ∧ e.2 = zBel Z j := by
  obtain ⟨j, _, h2, h3⟩ := zL_mem he
  refine ⟨j, by omega, by rw [h3]; show (j : Int) - 5000 + 0 = _; omega, ?_⟩
  rw [h3]
  show zB Z (2 + j) = _
  unfold zB
  rw [show 2 + j - 2 = j by omega]
theorem zA_mem {Z : Nat → Int} {e : Int × Int} (he : e ∈ zL (zA Z)) : ∃ j : Nat, j < 10001 ∧ e.1 = (j : Int) - 5000 ∧ e.2 = Z (2 + j) - zBel Z j := by
  obtain ⟨j, _, h2, h3⟩ := zL_mem he
  refine ⟨j, by omega, by rw [h3]; show (j : Int) - 5000 + 0 = _; omega, ?_⟩
  rw [h3]
  show zA Z (2 + j) = _
  unfold zA
  rw [show 2 + j - 2 = j by omega]
def zFall (Z : Nat → Int) (x : Int) : Int := zF (fun p => max (p - x) 0) (zL (zB Z))
def zRise (Z : Nat → Int) (x : Int) : Int := zF (fun p => max (x - p) 0) (zL (zA Z))
/-- where the slope is below 0 ahead of a place, that place lies ahead of all that rises -/
theorem zRise_0 {Z : Nat → Int} (h : zNn Z) {n : Nat} {x : Int} (hx : x ≤ (n : Int) - 5000) (hs : zS Z n ≤ 0) : zRise Z x = 0 := zF_null _ (fun e he h0 => by
  obtain ⟨j, h1, h2, h3⟩ := zA_mem he
  have w := h (2 + j) (by omega) (by omega)
  have e1 : zS Z (j + 1) = zS Z j + Z (2 + j) := by rw [zS, zW, if_pos (by omega)]
  have c : ¬ j + 1 ≤ n := fun q => by
    have := zS_le h q
    unfold zBel at h3
    omega
  show max (x - e.1) 0 = 0
  omega)
theorem zFall_0 {Z : Nat → Int} (h : zNn Z) {n : Nat} {x : Int} (hx : (n : Int) - 5000 ≤ x) (hs : 0 ≤ zS Z (n + 1)) : zFall Z x = 0 := zF_null _ (fun e he h0 => by
  obtain ⟨j, h1, h2, h3⟩ := zB_mem he
  have w := h (2 + j) (by omega) (by omega)
  have c : ¬ n + 1 ≤ j := fun q => by
    have := zS_le h q
    unfold zBel at h3
    omega
  show max (e.1 - x) 0 = 0
  omega)
/-- what falls, turned: its weights as rising ones, and a straight line -/
theorem zFall_turn {Z : Nat → Int} (h : zVee Z) (x : Int) : zF (fun p => max (x - p) 0) (zL (zB Z)) = -Z 0 * x + zF (fun p => p * -1) (zL (zB Z)) + zFall Z x := by
  have e1 : (fun p : Int => max (x - p) 0) = fun p => (fun _ => 1) p * x + ((fun p => p * -1) p + max (p - x) 0) := by
    funext p
    show max (x - p) 0 = 1 * x + (p * -1 + max (p - x) 0)
    omega
  rw [e1, zF_add, zF_add, zF_mul, zB_sum h]
  unfold zFall
  omega
theorem zVal_parts {Z : Nat → Int} (h : zVee Z) (x : Int) : zVal Z x = zLeast Z + zFall Z x + zRise Z x := by
  have f : ∀ x, zVal Z x = Z 1 + Z 0 * 5000 + zF (fun p => p * -1) (zL (zB Z)) + zFall Z x + zRise Z x := fun x => by
    rw [zVal_form, zBA, zFall_turn h x]
    unfold zRise
    rw [Int.mul_add, Int.neg_mul]
    omega
  obtain ⟨n, n1, n2, n3, n4⟩ := zNear_spec h
  have l : zLeast Z = zVal Z ((n : Int) - 5000) := by unfold zLeast; rw [n2]
  have a := f ((n : Int) - 5000)
  rw [zFall_0 h.1 (Int.le_refl _) n4, zRise_0 h.1 (Int.le_refl _) n3] at a
  have b := f x
  omega
theorem zBel_nn {Z : Nat → Int} (h : zNn Z) {j : Nat} (hj : j < 10001) : 0 ≤ zBel Z j ∧ zBel Z j ≤ Z (2 + j) := zBel_rng (h _ (by omega) (by omega))
theorem zFall_nn {Z : Nat → Int} (h : zNn Z) (x : Int) : 0 ≤ zFall Z x := zF_nn _ (fun e he => by
  obtain ⟨j, h1, h2, h3⟩ := zB_mem he
  rw [h3]; exact (zBel_nn h h1).1) (fun p => by omega)
theorem zRise_nn {Z : Nat → Int} (h : zNn Z) (x : Int) : 0 ≤ zRise Z x := zF_nn _ (fun e he => by
  obtain ⟨j, h1, h2, h3⟩ := zA_mem he
  have := (zBel_nn h h1).2
  omega) (fun p => by omega)
theorem zParts_L (φ : Int → Int) {Z : Nat → Int} {dn up : Int} {fa ri : Bool} (hw : zWide (plist Z dn up fa ri 10001 0) = false) : zF φ (zL (zParts Z (plist Z dn up fa ri 10001 0) dn fa)) = (if fa then zF (fun p => φ (p - dn)) (zL (zB Z)) else 0) + (if ri then zF (fun p => φ (p + up)) (zL (zA Z)) else 0) := by
  have e : zL (zParts Z (plist Z dn up fa ri 10001 0) dn fa) = zL (zCo (plist Z dn up fa ri 10001 0)) := zL_congr (fun k h1 h2 => by
    unfold zParts
    rw [if_neg (by omega), if_neg (by omega)])
  rw [e, zF_tab φ _ hw, plist_F]
  rfl
theorem plist_memB {Z : Nat → Int} {dn up : Int} {ri : Bool} : ∀ {q s : Nat} {e : Int × Int}, e ∈ dlist (zB Z) 0 q s → (e.1 - dn, e.2) ∈ plist Z dn up true ri q s := by
  intro q
  induction q with
  | zero => intro s e he; simp [dlist] at he
  | succ q ih =>
    intro s e he
    rw [dlist] at he
    rw [plist]
    rcases List.mem_cons.mp he with h | h
    · apply List.mem_append_left
      rw [h]
      show (((s : Int) - 5000 + 0 - dn), zB Z (2 + s)) ∈ [pfall Z dn s]
      unfold pfall zB
      rw [show (s : Int) - 5000 + 0 - dn = (s : Int) - 5000 - dn by omega, show 2 + s - 2 = s by omega]
      exact List.mem_singleton.mpr rfl
    · exact List.mem_append_right _ (List.mem_append_right _ (ih h))
/-- the value at the least place behind parts -/
theorem zPv_is {Z : Nat → Int} (h : zVee Z) {dn : Int} (hd : 0 ≤ dn ∧ dn ≤ 1000) (fa : Bool) : zPv Z dn fa (zLeast Z) (zTurn Z 0) = zLeast Z + (if fa then zFall Z (-5000 + dn) else 0) := by
  unfold zPv
  cases fa with
  | false => rw [if_pos (Or.inl rfl)]; simp
  | true =>
    rcases zTurn_spec Z 0 with ⟨t, q⟩ | ⟨t, q⟩ | ⟨j, j1, j2, j3, j4⟩
    · have : zFall Z (-5000 + dn) = 0 := zFall_0 h.1 (n := 0) (by omega) (by have : Z 0 ≤ zS Z 1 := zS_le h.1 (Nat.zero_le 1); show 0 ≤ zS Z 1; omega)
      rw [if_pos (Or.inr (Or.inl t)), this]; simp
    · have := h.2.2; omega
    · by_cases c : zTurn Z 0 - dn ≤ -5000
      · have : zFall Z (-5000 + dn) = 0 := zFall_0 h.1 (n := j) (by omega) j4
        rw [if_pos (Or.inr (Or.inr c)), this]; simp
      · have : zRise Z (-5000 + dn) = 0 := zRise_0 h.1 (n := j) (by omega) (by omega)
        rw [if_neg (by simp; omega), zVal_parts h, this]; simp
theorem zParts_val {Z : Nat → Int} (h : zVee Z) {dn up : Int} (hd : 0 ≤ dn ∧ dn ≤ 1000) (hu : 0 ≤ up) {fa ri : Bool} (hw : zWide (plist Z dn up fa ri 10001 0) = false) (x : Int) : zVal (zParts Z (plist Z dn up fa ri 10001 0) dn fa) x = zLeast Z + (if fa then zFall Z (x + dn) else 0) + (if ri then zRise Z (x - up) else 0) := by
  have e1 : zParts Z (plist Z dn up fa ri 10001 0) dn fa 1 = zLeast Z + (if fa then zFall Z (-5000 + dn) else 0) := zPv_is h hd fa
  have e0 : zParts Z (plist Z dn up fa ri 10001 0) dn fa 0 = if fa then Z 0 else 0 := rfl
  have e2 : zF (fun p => max (x - (p + up)) 0) (zL (zA Z)) = zRise Z (x - up) := by
    unfold zRise
    congr 1
    funext p
    rw [show x - (p + up) = x - up - p by omega]
  rw [zVal_form, e1, e0, zParts_L _ hw, e2]
  cases hf : fa with
  | false => simp
  | true =>
    subst hf
    have e3 : zF (fun p => max (x - (p - dn)) 0) (zL (zB Z)) = zF (fun p => max (x + dn - p) 0) (zL (zB Z)) := by
      congr 1
      funext p
      rw [show x - (p - dn) = x + dn - p by omega]
    have e4 : zFall Z (-5000 + dn) = zF (fun p => (fun _ => 1) p * (5000 - dn) + (fun p => (p * -1) * -1) p) (zL (zB Z)) := zF_congr _ (fun e he h0 => by
      have := zWide_mem hw _ (plist_memB (dn := dn) he) h0
      have h1 : -5000 ≤ e.1 - dn := this.1
      show max (e.1 - (-5000 + dn)) 0 = 1 * (5000 - dn) + (e.1 * -1) * -1
      omega)
    rw [zF_add, zF_mul, zF_mul (fun p => p * -1) (-1), zB_sum h] at e4
    have e5 := zFall_turn h (x + dn)
    simp only [if_pos]
    rw [e3, e4, e5]
    have m1 := Int.mul_add (Z 0) x 5000
    have m2 := Int.mul_add (Z 0) x dn
    have m3 := Int.mul_sub (Z 0) 5000 dn
    rw [Int.neg_mul, Int.neg_mul]
    omega
