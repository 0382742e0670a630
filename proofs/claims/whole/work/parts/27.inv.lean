/-! a table whose slopes rise: its least value, its bounds -/
theorem zS_end (Z : Nat → Int) : ∀ (q s : Nat), s + q = 10001 → zS Z s + zSum (dlist Z 0 q s) = zS Z 10001 := by
  intro q
  induction q with
  | zero => intro s hs; rw [show s = 10001 by omega]; simp [dlist, zSum]
  | succ q ih =>
    intro s hs
    have := ih (s + 1) (by omega)
    rw [zS, zW, if_pos (by omega)] at this
    rw [dlist, zSum]
    show _ + (Z (2 + s) + _) = _
    omega
theorem zS_all (Z : Nat → Int) : zS Z 10001 = Z 0 + zWts Z := (zS_end Z 10001 0 (by omega)).symm
/-- no weight is less than 0 -/
def zNn (Z : Nat → Int) : Prop := ∀ k, 2 ≤ k → k < 10003 → 0 ≤ Z k
theorem zW_nn {Z : Nat → Int} (h : zNn Z) (j : Nat) : 0 ≤ zW Z j := by
  unfold zW
  by_cases hj : j < 10001
  · rw [if_pos hj]; exact h _ (by omega) (by omega)
  · rw [if_neg hj]; omega
theorem zS_up {Z : Nat → Int} (h : zNn Z) (j : Nat) : ∀ i, zS Z j ≤ zS Z (j + i) := by
  intro i
  induction i with
  | zero => exact Int.le_refl _
  | succ i ih =>
    have := zW_nn h (j + i)
    rw [show j + (i + 1) = j + i + 1 by omega, zS]
    omega
theorem zS_le {Z : Nat → Int} (h : zNn Z) {j k : Nat} (hjk : j ≤ k) : zS Z j ≤ zS Z k := by
  have := zS_up h j (k - j)
  rwa [show j + (k - j) = k by omega] at this
theorem zFd_spec (Z : Nat → Int) (s : Int) : ∀ m k, k + m = 10001 → zS Z k < s → (zFd Z s m k = 100000000 ∧ zS Z 10001 < s) ∨ ∃ j : Nat, k ≤ j ∧ j < 10001 ∧ zFd Z s m k = (j : Int) - 5000 ∧ zS Z j < s ∧ s ≤ zS Z (j + 1) := by
  intro m
  induction m with
  | zero => intro k hk hs; exact Or.inl ⟨rfl, by rwa [show k = 10001 by omega] at hs⟩
  | succ m ih =>
    intro k hk hs
    rw [zFd]
    by_cases h : s ≤ zS Z (k + 1)
    · rw [if_pos h]; exact Or.inr ⟨k, by omega, by omega, rfl, hs, h⟩
    · rw [if_neg h]
      rcases ih (k + 1) (by omega) (by omega) with q | ⟨j, h1, h2, h3⟩
      · exact Or.inl q
      · exact Or.inr ⟨j, by omega, h2, h3⟩
theorem zTurn_spec (Z : Nat → Int) (s : Int) : (zTurn Z s = -100000000 ∧ s ≤ Z 0) ∨ (zTurn Z s = 100000000 ∧ zS Z 10001 < s) ∨ ∃ j : Nat, j < 10001 ∧ zTurn Z s = (j : Int) - 5000 ∧ zS Z j < s ∧ s ≤ zS Z (j + 1) := by
  unfold zTurn
  by_cases h : s ≤ Z 0
  · rw [if_pos h]; exact Or.inl ⟨rfl, h⟩
  · rw [if_neg h]
    rcases zFd_spec Z s 10001 0 (by omega) (show Z 0 < s by omega) with q | ⟨j, _, h2, h3⟩
    · exact Or.inr (Or.inl q)
    · exact Or.inr (Or.inr ⟨j, h2, h3⟩)
/-- it falls on the far left, or is flat there, and rises on the far right, or is flat there -/
def zVee (Z : Nat → Int) : Prop := zNn Z ∧ Z 0 ≤ 0 ∧ 0 ≤ zS Z 10001
theorem zNear_spec {Z : Nat → Int} (h : zVee Z) : ∃ n : Nat, n ≤ 10000 ∧ zNear (zTurn Z 0) (zTurn Z 1) 0 = (n : Int) - 5000 ∧ zS Z n ≤ 0 ∧ 0 ≤ zS Z (n + 1) := by
  obtain ⟨hn, h0, h1⟩ := h
  have a0 : ∀ k, Z 0 ≤ zS Z k := fun k => zS_le hn (Nat.zero_le k)
  have t0 := zTurn_spec Z 0
  have t1 := zTurn_spec Z 1
  unfold zNear
  by_cases c0 : 0 < zTurn Z 0
  · rw [if_pos c0]
    rcases t0 with q | q | ⟨j, j1, j2, j3, j4⟩
    · omega
    · omega
    · exact ⟨j, by omega, j2, by omega, j4⟩
  · rw [if_neg c0]
    by_cases c1 : zTurn Z 1 < 0
    · rw [if_pos c1]
      rcases t1 with q | q | ⟨j, j1, j2, j3, j4⟩
      · omega
      · omega
      · exact ⟨j, by omega, j2, by omega, by omega⟩
    · rw [if_neg c1]
      refine ⟨5000, by omega, by omega, ?_, ?_⟩
      · rcases t1 with q | q | ⟨j, j1, j2, j3, j4⟩
        · omega
        · have := zS_le hn (j := 5000) (k := 10001) (by omega); omega
        · have := zS_le hn (j := 5000) (k := j) (by omega); omega
      · rcases t0 with q | q | ⟨j, j1, j2, j3, j4⟩
        · have := a0 (5000 + 1); omega
        · omega
        · have := zS_le hn (j := j + 1) (k := 5000 + 1) (by omega); omega
theorem zV_right {Z : Nat → Int} (h : zNn Z) {n : Nat} (hs : 0 ≤ zS Z (n + 1)) : ∀ i, zV Z n ≤ zV Z (n + i) := by
  intro i
  induction i with
  | zero => exact Int.le_refl _
  | succ i ih =>
    have := zS_le h (j := n + 1) (k := n + i + 1) (by omega)
    rw [show n + (i + 1) = n + i + 1 by omega, zV]
    omega
theorem zV_left {Z : Nat → Int} (h : zNn Z) {n : Nat} (hs : zS Z n ≤ 0) : ∀ i, i ≤ n → zV Z n ≤ zV Z (n - i) := by
  intro i
  induction i with
  | zero => intro _; exact Int.le_refl _
  | succ i ih =>
    intro hi
    have e := ih (by omega)
    have := zS_le h (j := n - (i + 1) + 1) (k := n) (by omega)
    rw [show n - i = n - (i + 1) + 1 by omega, zV] at e
    omega
theorem zVal_n (Z : Nat → Int) (n : Nat) : zVal Z ((n : Int) - 5000) = zV Z n := by
  unfold zVal
  by_cases h : (n : Int) - 5000 ≤ -5000
  · rw [if_pos h, show n = 0 by omega]
    show Z 1 + Z 0 * (((0 : Nat) : Int) - 5000 + 5000) = Z 1
    simp
  · rw [if_neg h, show ((n : Int) - 5000 + 5000).toNat = n by omega]
/-- nothing is less than the least -/
theorem zLeast_le {Z : Nat → Int} (h : zVee Z) (x : Int) : zLeast Z ≤ zVal Z x := by
  obtain ⟨n, n1, n2, n3, n4⟩ := zNear_spec h
  unfold zLeast
  rw [n2, zVal_n]
  have l0 : zV Z n ≤ Z 1 := by
    have := zV_left h.1 n3 n (Nat.le_refl _)
    rwa [show n - n = 0 by omega] at this
  by_cases hx : x ≤ -5000
  · have : 0 ≤ Z 0 * (x + 5000) := Int.mul_nonneg_of_nonpos_of_nonpos h.2.1 (by omega)
    unfold zVal
    rw [if_pos hx]
    omega
  · obtain ⟨i, rfl⟩ : ∃ i : Nat, x = (i : Int) - 5000 := ⟨(x + 5000).toNat, by omega⟩
    rw [zVal_n]
    by_cases hi : i ≤ n
    · have := zV_left h.1 n3 (n - i) (by omega)
      rwa [show n - (n - i) = i by omega] at this
    · have := zV_right h.1 n4 (i - n)
      rwa [show n + (i - n) = i by omega] at this
theorem zV_low {Z : Nat → Int} (h : zNn Z) {c : Int} (hc : c ≤ Z 0) : ∀ n : Nat, Z 1 + c * n ≤ zV Z n := by
  intro n
  induction n with
  | zero => show Z 1 + c * ((0 : Nat) : Int) ≤ Z 1; simp
  | succ n ih =>
    have := zS_le h (Nat.zero_le (n + 1))
    have e : zS Z 0 = Z 0 := rfl
    rw [zV, show ((n + 1 : Nat) : Int) = (n : Int) + 1 by omega, Int.mul_add]
    omega
theorem zS_top {Z : Nat → Int} (h : zNn Z) (n : Nat) : zS Z n ≤ zS Z 10001 := by
  by_cases hn : n ≤ 10001
  · exact zS_le h hn
  · rw [zS_far Z n (by omega)]; exact Int.le_refl _
theorem zV_high {Z : Nat → Int} (h : zNn Z) {c : Int} (hc : zS Z 10001 ≤ c) : ∀ n : Nat, zV Z n ≤ Z 1 + c * n := by
  intro n
  induction n with
  | zero => show Z 1 ≤ Z 1 + c * ((0 : Nat) : Int); simp
  | succ n ih =>
    have := zS_top h (n + 1)
    rw [zV, show ((n + 1 : Nat) : Int) = (n : Int) + 1 by omega, Int.mul_add]
    omega
/-- a table that the reference holds: not TOO MUCH, nothing less than 0 -/
def zInv (Z : Nat → Int) : Prop := zVee Z ∧ zOk Z ∧ 0 ≤ zLeast Z
theorem zInv.rng {Z : Nat → Int} (h : zInv Z) : -5000 ≤ Z 0 ∧ zS Z 10001 ≤ 5000 ∧ 0 ≤ Z 1 ∧ Z 1 ≤ 150000000 := by
  obtain ⟨hv, hk, hl⟩ := h
  have e := zS_all Z
  obtain ⟨hn, h0, h1⟩ := id hv
  have hk' := hk.1
  have hk'' := hk.2
  have a : -5000 ≤ Z 0 := by omega
  have c := zLeast_le hv (-5000)
  have c2 : zVal Z (-5000) = Z 1 := zVal_n Z 0
  obtain ⟨n, n1, n2, n3, n4⟩ := zNear_spec hv
  have d := zV_low hn (c := -5000) a n
  have el : zLeast Z = zV Z n := by unfold zLeast; rw [n2, zVal_n]
  omega
theorem zInv.sb {Z : Nat → Int} (h : zInv Z) : sb Z := fun j hj => by
  have r := h.rng
  have a : Z 0 ≤ zS Z j := zS_le h.1.1 (Nat.zero_le j)
  have b := zS_top h.1.1 j
  omega
theorem zInv.val {Z : Nat → Int} (h : zInv Z) {x : Int} (h1 : -7000 ≤ x) (h2 : x ≤ 7000) : 0 ≤ zVal Z x ∧ zVal Z x ≤ 220000000 := by
  have r := h.rng
  have a := zLeast_le h.1 x
  have b := h.2.2
  refine ⟨by omega, ?_⟩
  by_cases hx : x ≤ -5000
  · have : Z 0 * (x + 5000) ≤ (-5000) * (x + 5000) := Int.mul_le_mul_of_nonpos_right r.1 (by omega)
    unfold zVal
    rw [if_pos hx]
    omega
  · obtain ⟨i, rfl⟩ : ∃ i : Nat, x = (i : Int) - 5000 := ⟨(x + 5000).toNat, by omega⟩
    rw [zVal_n]
    have := zV_high h.1.1 (c := 5000) r.2.1 i
    omega
theorem zSum_nn : ∀ (L : List (Int × Int)), (∀ e ∈ L, 0 ≤ e.2) → 0 ≤ zSum L := by
  intro L
  induction L with
  | nil => intro _; exact Int.le_refl _
  | cons e L ih =>
    intro h
    have := ih (fun q hq => h q (List.mem_cons_of_mem _ hq))
    have h2 := h e (List.mem_cons_self)
    rw [zSum]
    omega
theorem zInv.wt {Z : Nat → Int} (h : zInv Z) {k : Nat} (h1 : 2 ≤ k) (h2 : k < 10003) : 0 ≤ Z k ∧ Z k ≤ 5000 := by
  have hn := h.1.1
  have a := hn k h1 h2
  have r := h.rng
  have e : zS Z (k - 2 + 1) = zS Z (k - 2) + Z k := by rw [zS, zW, if_pos (by omega), show 2 + (k - 2) = k by omega]
  have b : Z 0 ≤ zS Z (k - 2) := zS_le hn (Nat.zero_le _)
  have c := zS_top hn (k - 2 + 1)
  have d := zS_all Z
  have f := h.2.1.1
  omega
