/-! kink, over, under, plus, and; what a step leaves: it falls, then rises; nothing below 0 -/
def zPlus (Z : Nat → Int) (a : Int) (k : Nat) : Int := if k = 1 then Z 1 + a else Z k
def zAnd (Z Y : Nat → Int) (k : Nat) : Int := Z k + Y k
theorem zWts_F (Z : Nat → Int) : zWts Z = zF (fun _ => 1) (zL Z) := (zF_one _).symm
theorem zLean_L (φ : Int → Int) (Z : Nat → Int) {a b c : Int} (ha : -5000 ≤ a ∧ a ≤ 5000) : zF φ (zL (zLean Z a b c)) = zF φ (zL Z) + (b + c) * φ a := by
  have e : zL (zLean Z a b c) = zL (fun k => Z k + (if 5002 + a = (k : Int) ∧ True then b + c else 0)) := zL_congr (fun k h1 h2 => by
    unfold zLean
    rw [if_neg (by omega), if_neg (by omega)]
    by_cases h : k = (5002 + a).toNat
    · rw [if_pos h, if_pos ⟨by omega, trivial⟩]
    · rw [if_neg h, if_neg (fun q => h (by omega))]; omega)
  rw [e]
  have := zF_plus φ Z (fun k => if 5002 + a = (k : Int) ∧ True then b + c else 0) 0 10001 0
  rw [zF_single φ a (b + c) True 10001 0, if_pos ⟨by omega, trivial⟩] at this
  exact this
theorem zLean_val (Z : Nat → Int) {a b c : Int} (ha : -5000 ≤ a ∧ a ≤ 5000) (x : Int) : zVal (zLean Z a b c) x = zVal Z x + b * max (a - x) 0 + c * max (x - a) 0 := by
  have e0 : zLean Z a b c 0 = Z 0 - b := rfl
  have e1 : zLean Z a b c 1 = Z 1 + b * (a + 5000) := rfl
  rw [zVal_form, zVal_form, zLean_L _ Z ha, e0, e1, Int.sub_mul, Int.add_mul]
  have m1 : b * (a + 5000) - b * (x + 5000) = b * (a - x) := by rw [← Int.mul_sub]; congr 1; omega
  by_cases h : a ≤ x
  · have m2 : b * (a - x) + b * (x - a) = 0 := by rw [← Int.mul_add, show a - x + (x - a) = 0 by omega, Int.mul_zero]
    rw [show max (x - a) 0 = x - a by omega, show max (a - x) 0 = 0 by omega, Int.mul_zero]
    omega
  · rw [show max (x - a) 0 = 0 by omega, show max (a - x) 0 = a - x by omega, Int.mul_zero, Int.mul_zero]
    omega
theorem zPlus_L (Z : Nat → Int) (a : Int) : zL (zPlus Z a) = zL Z := zL_congr (fun k h1 h2 => by unfold zPlus; rw [if_neg (by omega)])
theorem zPlus_val (Z : Nat → Int) (a x : Int) : zVal (zPlus Z a) x = zVal Z x + a := by
  have e0 : zPlus Z a 0 = Z 0 := rfl
  have e1 : zPlus Z a 1 = Z 1 + a := rfl
  rw [zVal_form, zVal_form, zPlus_L, e0, e1]
  omega
theorem zAnd_L (φ : Int → Int) (Z Y : Nat → Int) : zF φ (zL (zAnd Z Y)) = zF φ (zL Z) + zF φ (zL Y) := zF_plus φ Z Y 0 10001 0
theorem zAnd_val (Z Y : Nat → Int) (x : Int) : zVal (zAnd Z Y) x = zVal Z x + zVal Y x := by
  have e0 : zAnd Z Y 0 = Z 0 + Y 0 := rfl
  have e1 : zAnd Z Y 1 = Z 1 + Y 1 := rfl
  rw [zVal_form, zVal_form Z, zVal_form Y, zAnd_L, e0, e1, Int.add_mul]
  omega
theorem zCo_nn : ∀ (L : List (Int × Int)), (∀ e ∈ L, 0 ≤ e.2) → ∀ k, 0 ≤ zCo L k := by
  intro L
  induction L with
  | nil => intro _ k; exact Int.le_refl _
  | cons e L ih =>
    intro h k
    have h1 := h e (List.mem_cons_self)
    have h2 := ih (fun q hq => h q (List.mem_cons_of_mem _ hq)) k
    rw [zCo]
    by_cases c : 5002 + e.1 = (k : Int) ∧ -5000 ≤ e.1 ∧ e.1 ≤ 5000
    · rw [if_pos c]; omega
    · rw [if_neg c]; omega
theorem zLean_vee {Z : Nat → Int} (h : zVee Z) {a b c : Int} (ha : -5000 ≤ a ∧ a ≤ 5000) (hb : 0 ≤ b) (hc : 0 ≤ c) : zVee (zLean Z a b c) ∧ zWts (zLean Z a b c) = zWts Z + (b + c) := by
  have w : zWts (zLean Z a b c) = zWts Z + (b + c) := by rw [zWts_F, zWts_F, zLean_L _ Z ha, Int.mul_one]
  have e0 : zLean Z a b c 0 = Z 0 - b := rfl
  have s := zS_all Z
  have h1 := h.2.1
  have h2 := h.2.2
  refine ⟨⟨fun k k1 k2 => ?_, by omega, by rw [zS_all, w, e0]; omega⟩, w⟩
  have := h.1 k k1 k2
  unfold zLean
  rw [if_neg (by omega), if_neg (by omega)]
  by_cases q : k = (5002 + a).toNat
  · rw [if_pos q]; omega
  · rw [if_neg q]; exact this
theorem zDrift_vee {Z : Nat → Int} (h : zVee Z) {d : Int} (hw : zWide (dlist Z d 10001 0) = false) : zVee (zDrift Z d) ∧ zWts (zDrift Z d) = zWts Z := by
  have w : zWts (zDrift Z d) = zWts Z := by rw [zWts_F, zWts_F, zDrift_L _ hw]
  have e0 : zDrift Z d 0 = Z 0 := rfl
  have s := zS_all Z
  have h1 := h.2.1
  have h2 := h.2.2
  refine ⟨⟨fun k k1 k2 => ?_, by omega, by rw [zS_all, w, e0]; omega⟩, w⟩
  unfold zDrift
  rw [if_neg (by omega), if_neg (by omega)]
  by_cases q : 2 ≤ (k : Int) - d ∧ (k : Int) - d ≤ 10002
  · rw [if_pos q]; exact h.1 _ (by omega) (by omega)
  · rw [if_neg q]; exact Int.le_refl _
theorem zA_sum {Z : Nat → Int} (h : zVee Z) : zF (fun _ => 1) (zL (zA Z)) = zS Z 10001 := by
  have a := zBA (fun _ => 1) Z
  have b := zB_sum h
  have c := zWts_F Z
  have d := zS_all Z
  omega
theorem zParts_vee {Z : Nat → Int} (h : zVee Z) {dn up : Int} {fa ri : Bool} (hw : zWide (plist Z dn up fa ri 10001 0) = false) : zVee (zParts Z (plist Z dn up fa ri 10001 0) dn fa) ∧ 0 ≤ zWts (zParts Z (plist Z dn up fa ri 10001 0) dn fa) ∧ zWts (zParts Z (plist Z dn up fa ri 10001 0) dn fa) ≤ zWts Z := by
  have h1 := h.2.1
  have h2 := h.2.2
  have s := zS_all Z
  have w : zWts (zParts Z (plist Z dn up fa ri 10001 0) dn fa) = (if fa then -Z 0 else 0) + (if ri then zS Z 10001 else 0) := by
    rw [zWts_F, zParts_L _ hw, zB_sum h, zA_sum h]
  have e0 : zParts Z (plist Z dn up fa ri 10001 0) dn fa 0 = if fa then Z 0 else 0 := rfl
  refine ⟨⟨fun k k1 k2 => ?_, ?_, ?_⟩, ?_⟩
  · unfold zParts
    rw [if_neg (by omega), if_neg (by omega)]
    exact zCo_nn _ (plist_nonneg h.1 10001 0 (by omega)) k
  · rw [e0]; cases fa
    · exact Int.le_refl _
    · exact h1
  · rw [zS_all, w, e0]
    cases fa <;> cases ri <;> simp <;> omega
  · rw [w]
    cases fa <;> cases ri <;> simp <;> omega
theorem zPlus_vee {Z : Nat → Int} (h : zVee Z) (a : Int) : zVee (zPlus Z a) ∧ zWts (zPlus Z a) = zWts Z := by
  have w : zWts (zPlus Z a) = zWts Z := by rw [zWts_F, zWts_F, zPlus_L]
  have e0 : zPlus Z a 0 = Z 0 := rfl
  have s := zS_all Z
  have h1 := h.2.1
  have h2 := h.2.2
  refine ⟨⟨fun k k1 k2 => ?_, by omega, by rw [zS_all, w, e0]; omega⟩, w⟩
  unfold zPlus
  rw [if_neg (by omega)]
  exact h.1 k k1 k2
theorem zAnd_vee {Z Y : Nat → Int} (h : zVee Z) (h' : zVee Y) : zVee (zAnd Z Y) ∧ zWts (zAnd Z Y) = zWts Z + zWts Y := by
  have w : zWts (zAnd Z Y) = zWts Z + zWts Y := by rw [zWts_F, zWts_F, zWts_F, zAnd_L]
  have e0 : zAnd Z Y 0 = Z 0 + Y 0 := rfl
  have s := zS_all Z
  have s' := zS_all Y
  have h1 := h.2.1
  have h2 := h.2.2
  have h1' := h'.2.1
  have h2' := h'.2.2
  refine ⟨⟨fun k k1 k2 => ?_, by omega, by rw [zS_all, w, e0]; omega⟩, w⟩
  have a := h.1 k k1 k2
  have b := h'.1 k k1 k2
  show 0 ≤ Z k + Y k
  omega
theorem zLeast_at (Z : Nat → Int) : ∃ x, zLeast Z = zVal Z x := ⟨_, rfl⟩
/-- the least behind drift, parts, plus -/
theorem zDrift_least {Z : Nat → Int} (h : zVee Z) {d : Int} (hw : zWide (dlist Z d 10001 0) = false) : zLeast (zDrift Z d) = zLeast Z := by
  obtain ⟨x, hx⟩ := zLeast_at (zDrift Z d)
  obtain ⟨y, hy⟩ := zLeast_at Z
  have a := zLeast_le (zDrift_vee h hw).1 (y + d)
  have b := zLeast_le h (x - d)
  rw [zDrift_val hw] at hx a
  rw [show y + d - d = y by omega] at a
  omega
theorem zParts_least {Z : Nat → Int} (h : zVee Z) {dn up : Int} (hd : 0 ≤ dn ∧ dn ≤ 1000) (hu : 0 ≤ up) {fa ri : Bool} (hw : zWide (plist Z dn up fa ri 10001 0) = false) : zLeast (zParts Z (plist Z dn up fa ri 10001 0) dn fa) = zLeast Z := by
  obtain ⟨x, hx⟩ := zLeast_at (zParts Z (plist Z dn up fa ri 10001 0) dn fa)
  obtain ⟨n, n1, n2, n3, n4⟩ := zNear_spec h
  have a := zLeast_le (zParts_vee h hw).1 ((n : Int) - 5000)
  have r : zRise Z ((n : Int) - 5000 - up) = 0 := zRise_0 h.1 (n := n) (by omega) n3
  have f : zFall Z ((n : Int) - 5000 + dn) = 0 := zFall_0 h.1 (n := n) (by omega) n4
  have f1 := zFall_nn h.1 (x + dn)
  have r1 := zRise_nn h.1 (x - up)
  rw [zParts_val h hd hu hw] at a hx
  rw [r, f] at a
  cases fa <;> cases ri <;> simp at a hx <;> omega
theorem zPlus_least {Z : Nat → Int} (h : zVee Z) (a : Int) : zLeast (zPlus Z a) = zLeast Z + a := by
  obtain ⟨x, hx⟩ := zLeast_at (zPlus Z a)
  obtain ⟨y, hy⟩ := zLeast_at Z
  have c := zLeast_le (zPlus_vee h a).1 y
  have b := zLeast_le h x
  rw [zPlus_val] at hx c
  omega
