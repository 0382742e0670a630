/-! values as sums over weights -/
def zF (φ : Int → Int) : List (Int × Int) → Int
  | [] => 0
  | e :: L => e.2 * φ e.1 + zF φ L
theorem zF_app (φ : Int → Int) (L K : List (Int × Int)) : zF φ (L ++ K) = zF φ L + zF φ K := by
  induction L with
  | nil => simp [zF]
  | cons e L ih => simp only [List.cons_append, zF, ih]; omega
theorem zF_add (φ ψ : Int → Int) (L : List (Int × Int)) : zF (fun p => φ p + ψ p) L = zF φ L + zF ψ L := by
  induction L with
  | nil => rfl
  | cons e L ih => simp only [zF, ih, Int.mul_add]; omega
theorem zF_congr {φ ψ : Int → Int} : ∀ L : List (Int × Int), (∀ e ∈ L, e.2 ≠ 0 → φ e.1 = ψ e.1) → zF φ L = zF ψ L := by
  intro L
  induction L with
  | nil => intro _; rfl
  | cons e L ih =>
    intro h
    have h1 : e.2 * φ e.1 = e.2 * ψ e.1 := by
      by_cases e0 : e.2 = 0
      · rw [e0, Int.zero_mul, Int.zero_mul]
      · rw [h e (List.mem_cons_self) e0]
    rw [zF, zF, ih (fun q hq => h q (List.mem_cons_of_mem _ hq)), h1]
theorem zF_nn {φ : Int → Int} : ∀ L : List (Int × Int), (∀ e ∈ L, 0 ≤ e.2) → (∀ p, 0 ≤ φ p) → 0 ≤ zF φ L := by
  intro L
  induction L with
  | nil => intro _ _; exact Int.le_refl _
  | cons e L ih =>
    intro h hp
    have h1 := Int.mul_nonneg (h e (List.mem_cons_self)) (hp e.1)
    have h2 := ih (fun q hq => h q (List.mem_cons_of_mem _ hq)) hp
    rw [zF]
    omega
theorem zF_mul (φ : Int → Int) (c : Int) (L : List (Int × Int)) : zF (fun p => φ p * c) L = zF φ L * c := by
  induction L with
  | nil => simp [zF]
  | cons e L ih => simp only [zF, ih, Int.add_mul, Int.mul_assoc]
theorem zF_one (L : List (Int × Int)) : zF (fun _ => 1) L = zSum L := by
  induction L with
  | nil => rfl
  | cons e L ih => rw [zF, zSum, ih, Int.mul_one]
theorem zF_at (Z : Nat → Int) (c : Int) : ∀ (q s : Nat), zF (fun p => if p = c then 1 else 0) (dlist Z 0 q s) = if (s : Int) ≤ c + 5000 ∧ c + 5000 < (s : Int) + q then Z (2 + (c + 5000).toNat) else 0 := by
  intro q
  induction q with
  | zero => intro s; rw [if_neg (by omega)]; rfl
  | succ q ih =>
    intro s
    rw [dlist, zF, ih (s + 1)]
    show Z (2 + s) * (if (s : Int) - 5000 + 0 = c then 1 else 0) + _ = _
    by_cases h1 : (s : Int) - 5000 + 0 = c
    · rw [if_pos h1, if_neg (by omega), if_pos (by omega), show (c + 5000).toNat = s by omega]
      omega
    · rw [if_neg h1]
      by_cases h2 : ((s + 1 : Nat) : Int) ≤ c + 5000 ∧ c + 5000 < ((s + 1 : Nat) : Int) + q
      · rw [if_pos h2, if_pos (by omega)]; omega
      · rw [if_neg h2, if_neg (by omega)]; omega
/-- all weights of a table, with their places -/
def zL (Z : Nat → Int) : List (Int × Int) := dlist Z 0 10001 0
theorem zL_W (Z : Nat → Int) (n : Nat) : zF (fun p => if p = (n : Int) - 5000 then 1 else 0) (zL Z) = zW Z n := by
  unfold zL zW
  rw [zF_at Z _ 10001 0]
  by_cases h : n < 10001
  · rw [if_pos (by omega), if_pos h, show ((n : Int) - 5000 + 5000).toNat = n by omega]
  · rw [if_neg (by omega), if_neg h]
theorem zS_form (Z : Nat → Int) : ∀ n : Nat, zS Z n = Z 0 + zF (fun p => if p < (n : Int) - 5000 then 1 else 0) (zL Z) + 0 := by
  have base : zF (fun p => if p < ((0 : Nat) : Int) - 5000 then 1 else 0) (zL Z) = 0 := by
    unfold zL
    have : ∀ (q s : Nat), zF (fun p => if p < ((0 : Nat) : Int) - 5000 then 1 else 0) (dlist Z 0 q s) = 0 := by
      intro q
      induction q with
      | zero => intro s; rfl
      | succ q ih =>
        intro s
        rw [dlist, zF, ih]
        show Z (2 + s) * (if (s : Int) - 5000 + 0 < ((0 : Nat) : Int) - 5000 then 1 else 0) + 0 = 0
        rw [if_neg (by omega)]
        omega
    exact this 10001 0
  intro n
  induction n with
  | zero => rw [base]; show Z 0 = _; omega
  | succ n ih =>
    rw [zS, ih, ← zL_W]
    have e := zF_add (fun p => if p < (n : Int) - 5000 then 1 else 0) (fun p => if p = (n : Int) - 5000 then 1 else 0) (zL Z)
    have c : zF (fun p => if p < ((n + 1 : Nat) : Int) - 5000 then 1 else 0) (zL Z) = zF (fun p => (if p < (n : Int) - 5000 then 1 else 0) + (if p = (n : Int) - 5000 then 1 else 0)) (zL Z) := by
      congr 1
      funext p
      by_cases h1 : p < (n : Int) - 5000
      · rw [if_pos (by omega), if_pos h1, if_neg (by omega)]; rfl
      · by_cases h2 : p = (n : Int) - 5000
        · rw [if_pos (by omega), if_neg h1, if_pos h2]; rfl
        · rw [if_neg (by omega), if_neg h1, if_neg h2]; rfl
    rw [c, e]
    omega
theorem dlist_rng (Z : Nat → Int) (d : Int) : ∀ (q s : Nat), ∀ e ∈ dlist Z d q s, (s : Int) - 5000 + d ≤ e.1 ∧ e.1 < (s : Int) - 5000 + d + q := by
  intro q
  induction q with
  | zero => intro s e he; simp [dlist] at he
  | succ q ih =>
    intro s e he
    rw [dlist] at he
    rcases List.mem_cons.mp he with h | h
    · rw [h]; show (s : Int) - 5000 + d ≤ (s : Int) - 5000 + d ∧ (s : Int) - 5000 + d < _; omega
    · have := ih (s + 1) e h; omega
theorem zV_form (Z : Nat → Int) : ∀ n : Nat, zV Z n = Z 1 + Z 0 * n + zF (fun p => max ((n : Int) - 5000 - p) 0) (zL Z) := by
  intro n
  induction n with
  | zero =>
    have : zF (fun p => max (((0 : Nat) : Int) - 5000 - p) 0) (zL Z) = zF (fun _ => 0) (zL Z) := zF_congr _ (fun e he _ => by
      have := dlist_rng Z 0 10001 0 e he
      show max (((0 : Nat) : Int) - 5000 - e.1) 0 = 0
      omega)
    have z0 : ∀ L, zF (fun _ => 0) L = 0 := by
      intro L
      induction L with
      | nil => rfl
      | cons e L ih => rw [zF, ih, Int.mul_zero]; rfl
    rw [this, z0]
    show Z 1 = Z 1 + Z 0 * ((0 : Nat) : Int) + 0
    simp
  | succ n ih =>
    rw [zV, ih, zS_form]
    have e := zF_add (fun p => max ((n : Int) - 5000 - p) 0) (fun p => if p < ((n + 1 : Nat) : Int) - 5000 then 1 else 0) (zL Z)
    have c : zF (fun p => max (((n + 1 : Nat) : Int) - 5000 - p) 0) (zL Z) = zF (fun p => max ((n : Int) - 5000 - p) 0 + (if p < ((n + 1 : Nat) : Int) - 5000 then 1 else 0)) (zL Z) := by
      congr 1
      funext p
      by_cases h1 : p < ((n + 1 : Nat) : Int) - 5000
      · rw [if_pos h1]; omega
      · rw [if_neg h1]; omega
    rw [c, e, show ((n + 1 : Nat) : Int) = (n : Int) + 1 by omega, Int.mul_add]
    omega
/-- the value at any place -/
theorem zVal_form (Z : Nat → Int) (x : Int) : zVal Z x = Z 1 + Z 0 * (x + 5000) + zF (fun p => max (x - p) 0) (zL Z) := by
  by_cases hx : x ≤ -5000
  · have : zF (fun p => max (x - p) 0) (zL Z) = zF (fun p => (fun _ => 1) p * 0) (zL Z) := zF_congr _ (fun e he _ => by
      have := dlist_rng Z 0 10001 0 e he
      show max (x - e.1) 0 = 1 * 0
      omega)
    rw [this, zF_mul]
    unfold zVal
    rw [if_pos hx]
    omega
  · obtain ⟨i, rfl⟩ : ∃ i : Nat, x = (i : Int) - 5000 := ⟨(x + 5000).toNat, by omega⟩
    rw [zVal_n, zV_form, show (i : Int) - 5000 + 5000 = (i : Int) by omega]
theorem zF_plus (φ : Int → Int) (Y W : Nat → Int) (d : Int) : ∀ (q s : Nat), zF φ (dlist (fun k => Y k + W k) d q s) = zF φ (dlist Y d q s) + zF φ (dlist W d q s) := by
  intro q
  induction q with
  | zero => intro s; rfl
  | succ q ih => intro s; simp only [dlist, zF, ih, Int.add_mul]; omega
theorem zF_single (φ : Int → Int) (c w : Int) (b : Prop) [Decidable b] : ∀ (q s : Nat), zF φ (dlist (fun k => if 5002 + c = (k : Int) ∧ b then w else 0) 0 q s) = if ((s : Int) ≤ c + 5000 ∧ c + 5000 < (s : Int) + q) ∧ b then w * φ c else 0 := by
  intro q
  induction q with
  | zero => intro s; rw [if_neg (by omega)]; rfl
  | succ q ih =>
    intro s
    rw [dlist, zF, ih (s + 1)]
    show (if 5002 + c = ((2 + s : Nat) : Int) ∧ b then w else 0) * φ ((s : Int) - 5000 + 0) + _ = _
    by_cases hb : b
    · by_cases h1 : 5002 + c = ((2 + s : Nat) : Int)
      · rw [if_pos ⟨h1, hb⟩, if_neg (by omega), if_pos ⟨by omega, hb⟩, show (s : Int) - 5000 + 0 = c by omega]
        omega
      · rw [if_neg (fun q => h1 q.1), Int.zero_mul]
        by_cases h2 : ((s + 1 : Nat) : Int) ≤ c + 5000 ∧ c + 5000 < ((s + 1 : Nat) : Int) + q
        · rw [if_pos ⟨h2, hb⟩, if_pos ⟨by omega, hb⟩]; omega
        · rw [if_neg (fun q => h2 q.1), if_neg (fun q => absurd q.1 (by omega))]; rfl
    · rw [if_neg (fun q => hb q.2), if_neg (fun q => hb q.2), if_neg (fun q => hb q.2), Int.zero_mul]; rfl
/-- a table made of a list has the list's sums, unless a weight would come beyond the places -/
theorem zF_tab (φ : Int → Int) : ∀ L : List (Int × Int), zWide L = false → zF φ (zL (zCo L)) = zF φ L := by
  intro L
  induction L with
  | nil =>
    intro _
    have : ∀ (q s : Nat), zF φ (dlist (zCo []) 0 q s) = 0 := by
      intro q
      induction q with
      | zero => intro s; rfl
      | succ q ih => intro s; rw [dlist, zF, ih]; show 0 * _ + 0 = 0; omega
    exact this 10001 0
  | cons e L ih =>
    intro h
    rw [zWide, Bool.or_eq_false_iff] at h
    have e1 : zF φ (zL (zCo (e :: L))) = zF φ (dlist (fun k => if 5002 + e.1 = (k : Int) ∧ (-5000 ≤ e.1 ∧ e.1 ≤ 5000) then e.2 else 0) 0 10001 0) + zF φ (zL (zCo L)) := zF_plus φ (fun k => if 5002 + e.1 = (k : Int) ∧ (-5000 ≤ e.1 ∧ e.1 ≤ 5000) then e.2 else 0) (zCo L) 0 10001 0
    rw [e1, zF_single φ e.1 e.2 (-5000 ≤ e.1 ∧ e.1 ≤ 5000) 10001 0, ih h.2, zF]
    by_cases h1 : -5000 ≤ e.1 ∧ e.1 ≤ 5000
    · rw [if_pos ⟨by omega, h1⟩]
    · rw [if_neg (fun q => h1 q.2)]
      have : e.2 = 0 := by
        have := h.1
        simp [h1] at this
        exact this
      rw [this, Int.zero_mul]
theorem zL_congr {Z Y : Nat → Int} (h : ∀ k, 2 ≤ k → k < 10003 → Z k = Y k) : zL Z = zL Y := by
  have : ∀ (q s : Nat), s + q = 10001 → dlist Z 0 q s = dlist Y 0 q s := by
    intro q
    induction q with
    | zero => intro s _; rfl
    | succ q ih => intro s hs; rw [dlist, dlist, h _ (by omega) (by omega), ih (s + 1) (by omega)]
  exact this 10001 0 (by omega)
