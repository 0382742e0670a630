/-! A GREATER WEIGHT NEVER COSTS LESS -/
section
variable {Z Y W : Nat → Int}
/-- nowhere dearer -/
def vLe (Z Y : Nat → Int) : Prop := ∀ x, zVal Z x ≤ zVal Y x
theorem zFall_anti (h : zNn Z) {x y : Int} (hxy : x ≤ y) : zFall Z y ≤ zFall Z x := zF_mono _ (fun e he => by
  obtain ⟨j, h1, h2, h3⟩ := zB_mem he
  rw [h3]; exact (zBel_nn h h1).1) (fun p => by omega)
theorem zRise_mn (h : zNn Z) {x y : Int} (hxy : x ≤ y) : zRise Z x ≤ zRise Z y := zF_mono _ (fun e he => by
  obtain ⟨j, h1, h2, h3⟩ := zA_mem he
  have := (zBel_nn h h1).2
  omega) (fun p => by omega)
theorem parts_le (h : zVee Z) {x dn up y : Int} {fa ri : Bool} (h1 : fa = true → y ≤ x + dn) (h2 : ri = true → x - up ≤ y) : zLeast Z + (if fa then zFall Z (x + dn) else 0) + (if ri then zRise Z (x - up) else 0) ≤ zVal Z y := by
  have n1 := zFall_nn h.1 y
  have n2 := zRise_nn h.1 y
  have a1 : (if fa then zFall Z (x + dn) else 0) ≤ zFall Z y := by
    cases fa
    · exact n1
    · exact zFall_anti h.1 (h1 rfl)
  have a2 : (if ri then zRise Z (x - up) else 0) ≤ zRise Z y := by
    cases ri
    · exact n2
    · exact zRise_mn h.1 (h2 rfl)
  rw [zVal_parts h y]
  omega
theorem parts_at (h : zVee Z) {x dn up : Int} (hd : 0 ≤ dn) (hu : 0 ≤ up) (fa ri : Bool) : ∃ y, (fa = true → y ≤ x + dn) ∧ (ri = true → x - up ≤ y) ∧ zVal Z y = zLeast Z + (if fa then zFall Z (x + dn) else 0) + (if ri then zRise Z (x - up) else 0) := by
  obtain ⟨n, n1, n2, n3, n4⟩ := zNear_spec h
  have f0 : ∀ y, (n : Int) - 5000 ≤ y → zFall Z y = 0 := fun y hy => zFall_0 h.1 hy n4
  have r0 : ∀ y, y ≤ (n : Int) - 5000 → zRise Z y = 0 := fun y hy => zRise_0 h.1 hy n3
  clear n2 n3 n4
  generalize hc : (n : Int) - 5000 = c at f0 r0
  clear hc n1
  by_cases q1 : fa = true ∧ x + dn < c
  · refine ⟨x + dn, fun _ => Int.le_refl _, fun _ => by omega, ?_⟩
    rw [zVal_parts h, if_pos q1.1, r0 (x + dn) (by omega), r0 (x - up) (by omega)]
    split <;> rfl
  · by_cases q2 : ri = true ∧ c < x - up
    · refine ⟨x - up, fun _ => by omega, fun _ => Int.le_refl _, ?_⟩
      rw [zVal_parts h, if_pos q2.1, f0 (x - up) (by omega), f0 (x + dn) (by omega)]
      have : (if fa = true then (0 : Int) else 0) = 0 := by split <;> rfl
      rw [this]
    · refine ⟨c, fun e => ?_, fun e => ?_, ?_⟩
      · by_cases z : c ≤ x + dn
        · exact z
        · exact absurd ⟨e, by omega⟩ q1
      · by_cases z : x - up ≤ c
        · exact z
        · exact absurd ⟨e, by omega⟩ q2
      · rw [zVal_parts h, f0 c (Int.le_refl _), r0 c (Int.le_refl _)]
        have e1 : (if fa = true then zFall Z (x + dn) else 0) = 0 := by
          by_cases e : fa = true
          · rw [if_pos e]
            exact f0 _ (by
              by_cases z : c ≤ x + dn
              · exact z
              · exact absurd ⟨e, by omega⟩ q1)
          · rw [if_neg e]
        have e2 : (if ri = true then zRise Z (x - up) else 0) = 0 := by
          by_cases e : ri = true
          · rw [if_pos e]
            exact r0 _ (by
              by_cases z : x - up ≤ c
              · exact z
              · exact absurd ⟨e, by omega⟩ q2)
          · rw [if_neg e]
        rw [e1, e2]
theorem parts_mono (hZ : zVee Z) (hY : zVee Y) (le : vLe Z Y) {dn up : Int} (hd : 0 ≤ dn ∧ dn ≤ 1000) (hu : 0 ≤ up) {fa ri : Bool} (wZ : zWide (plist Z dn up fa ri 10001 0) = false) (wY : zWide (plist Y dn up fa ri 10001 0) = false) : vLe (zParts Z (plist Z dn up fa ri 10001 0) dn fa) (zParts Y (plist Y dn up fa ri 10001 0) dn fa) := fun x => by
  rw [zParts_val hZ hd hu wZ, zParts_val hY hd hu wY]
  obtain ⟨y, y1, y2, y3⟩ := parts_at hY (x := x) hd.1 hu fa ri
  rw [← y3]
  exact Int.le_trans (parts_le hZ y1 y2) (le y)
theorem lean_mono (le : vLe Z Y) {a b c b' c' : Int} (ha : -5000 ≤ a ∧ a ≤ 5000) (hb : b ≤ b') (hc : c ≤ c') : vLe (zLean Z a b c) (zLean Y a b' c') := fun x => by
  rw [zLean_val Z ha, zLean_val Y ha]
  have h1 := le x
  have h2 := Int.mul_le_mul_of_nonneg_right hb (show 0 ≤ max (a - x) 0 by omega)
  have h3 := Int.mul_le_mul_of_nonneg_right hc (show 0 ≤ max (x - a) 0 by omega)
  generalize b * max (a - x) 0 = u1 at *
  generalize b' * max (a - x) 0 = u2 at *
  generalize c * max (x - a) 0 = u3 at *
  generalize c' * max (x - a) 0 = u4 at *
  omega
theorem step_mono (hZ : zVee Z) (hY : zVee Y) (le : vLe Z Y) {kd a b b' : Int} (ok : okArg kd a b) (hb : b ≤ b') (h3 : 3 ≤ kd → b = b') (beZ : zBey Z kd a b = false) (beY : zBey Y kd a b' = false) : vLe (zStep Z W kd a b) (zStep Y W kd a b') := by
  obtain ⟨k0, k1, k3, k4, k7⟩ := ok
  unfold zBey at beZ beY
  unfold zStep
  by_cases e0 : kd = 0
  · rw [if_pos e0, if_pos e0]
    exact lean_mono le (by have := k1 (by omega); omega) hb hb
  rw [if_neg e0, if_neg e0]
  by_cases e1 : kd = 1
  · rw [if_pos e1, if_pos e1]
    exact lean_mono le (by have := k1 (by omega); omega) (Int.le_refl _) hb
  rw [if_neg e1, if_neg e1]
  by_cases e2 : kd = 2
  · rw [if_pos e2, if_pos e2]
    exact lean_mono le (by have := k1 (by omega); omega) hb (Int.le_refl _)
  rw [if_neg e2, if_neg e2]
  have eb := h3 (by omega)
  subst eb
  by_cases e3 : kd = 3
  · rw [if_pos e3] at beZ beY
    rw [if_pos e3, if_pos e3]
    intro x
    rw [zDrift_val beZ, zDrift_val beY]
    exact le _
  rw [if_neg e3] at beZ beY
  rw [if_neg e3, if_neg e3]
  by_cases e4 : kd = 4
  · rw [if_pos e4] at beZ beY
    rw [if_pos e4, if_pos e4]
    have := k4 e4
    exact parts_mono hZ hY le (by omega) (by omega) beZ beY
  rw [if_neg e4, if_neg e4]
  by_cases e5 : kd = 5
  · rw [if_pos e5, if_pos e5]
    exact parts_mono hZ hY le (by omega) (by omega) (plist_0 Z true false 10001 0 (by omega)) (plist_0 Y true false 10001 0 (by omega))
  rw [if_neg e5, if_neg e5]
  by_cases e6 : kd = 6
  · rw [if_pos e6, if_pos e6]
    exact parts_mono hZ hY le (by omega) (by omega) (plist_0 Z false true 10001 0 (by omega)) (plist_0 Y false true 10001 0 (by omega))
  rw [if_neg e6, if_neg e6]
  by_cases e7 : kd = 7
  · rw [if_pos e7, if_pos e7]
    intro x
    have := le x
    rw [zPlus_val, zPlus_val]
    omega
  rw [if_neg e7, if_neg e7]
  intro x
  have := le x
  rw [zAnd_val, zAnd_val]
  omega
end
section
variable {p : Nat → Int × Int × Int} {Y : Nat → Nat → Int} {n i : Nat}
theorem pW_arg (hA : ∀ j, j < n → okArg (p j).1 (p j).2.1 (p j).2.2 ∧ ((p j).1 = 8 → zInv (Y j))) (hk : (p i).1 ≤ 2) {w : Int} (hw : 0 ≤ w ∧ w ≤ 99) : ∀ j, j < n → okArg (pW p i w j).1 (pW p i w j).2.1 (pW p i w j).2.2 ∧ ((pW p i w j).1 = 8 → zInv (Y j)) := fun j hj => by
  obtain ⟨ok, hy⟩ := hA j hj
  unfold pW
  by_cases e : j = i
  · subst e
    rw [if_pos rfl]
    obtain ⟨k0, k1, k3, k4, k7⟩ := ok
    exact ⟨⟨k0, fun q => ⟨(k1 q).1, hw⟩, fun q => by have q' : (p j).1 = 3 := q; omega, fun q => by have q' : (p j).1 = 4 := q; omega, fun q => by have q' : (p j).1 = 7 := q; omega⟩, hy⟩
  · rw [if_neg e]
    exact ⟨ok, hy⟩
theorem zT_mono (hA : ∀ j, j < n → okArg (p j).1 (p j).2.1 (p j).2.2 ∧ ((p j).1 = 8 → zInv (Y j))) (hk : (p i).1 ≤ 2) {w w' : Int} (hw : 0 ≤ w ∧ w ≤ 99) (hw' : 0 ≤ w' ∧ w' ≤ 99) (hle : w ≤ w') (h1 : ∀ j, j < n → okS (pW p i w) Y (-1) j) (h2 : ∀ j, j < n → okS (pW p i w') Y (-1) j) : ∀ j, j ≤ n → vLe (zT (pW p i w) Y (-1) j) (zT (pW p i w') Y (-1) j) := by
  have i1 := zT_inv (pW_arg hA hk hw) h1
  have i2 := zT_inv (pW_arg hA hk hw') h2
  intro j
  induction j with
  | zero => intro _ x; exact Int.le_refl _
  | succ j ih =>
    intro hj
    have o1 : zBey (zT (pW p i w) Y (-1) j) (pW p i w j).1 (pW p i w j).2.1 (pW p i w j).2.2 = false := by
      rcases h1 j (by omega) with z | z
      · omega
      · exact z.1
    have o2 : zBey (zT (pW p i w') Y (-1) j) (pW p i w' j).1 (pW p i w' j).2.1 (pW p i w' j).2.2 = false := by
      rcases h2 j (by omega) with z | z
      · omega
      · exact z.1
    have e1 : (pW p i w' j).1 = (pW p i w j).1 ∧ (pW p i w' j).2.1 = (pW p i w j).2.1 ∧ (pW p i w j).2.2 ≤ (pW p i w' j).2.2 ∧ (3 ≤ (pW p i w j).1 → (pW p i w j).2.2 = (pW p i w' j).2.2) := by
      unfold pW
      by_cases e : j = i
      · rw [if_pos e, if_pos e]
        exact ⟨rfl, rfl, hle, fun q => by have q' : 3 ≤ (p j).1 := q; rw [e] at q'; omega⟩
      · rw [if_neg e, if_neg e]
        exact ⟨rfl, rfl, Int.le_refl _, fun _ => rfl⟩
    rw [zT_go (by omega), zT_go (by omega), e1.1, e1.2.1]
    rw [e1.1, e1.2.1] at o2
    exact step_mono (i1 j (by omega)).1 (i2 j (by omega)).1 (ih (by omega)) (pW_arg hA hk hw j (by omega)).1 e1.2.2.1 e1.2.2.2 o1 o2
end
/-! counting unlike values -/
/-- of the weights below k none that fits has the value of w -/
def nbB (f : Nat → Bool) (V : Nat → Int) (w : Nat) : Nat → Bool
  | 0 => f w
  | o + 1 => nbB f V w o && (!f o || decide (V o ≠ V w))
def unR (f : Nat → Bool) (V : Nat → Int) : Nat → Int
  | 0 => 0
  | w + 1 => unR f V w + (if nbB f V w w = true then 1 else 0)
theorem nbB_iff (f : Nat → Bool) (V : Nat → Int) (w : Nat) : ∀ k, nbB f V w k = true ↔ f w = true ∧ ∀ o, o < k → f o = true → V o ≠ V w := by
  intro k
  induction k with
  | zero => exact ⟨fun h => ⟨h, fun o ho => absurd ho (Nat.not_lt_zero _)⟩, fun h => h.1⟩
  | succ k ih =>
    rw [nbB, Bool.and_eq_true, Bool.or_eq_true, Bool.not_eq_true', decide_eq_true_iff, ih]
    constructor
    · rintro ⟨⟨a, b⟩, c⟩
      refine ⟨a, fun o ho hf => ?_⟩
      by_cases e : o = k
      · rw [e] at hf ⊢
        rcases c with c | c
        · rw [c] at hf; cases hf
        · exact c
      · exact b o (by omega) hf
    · rintro ⟨a, b⟩
      refine ⟨⟨a, fun o ho => b o (by omega)⟩, ?_⟩
      cases hf : f k
      · exact Or.inl rfl
      · exact Or.inr (b k (by omega) hf)
theorem nbB_false {f : Nat → Bool} {V : Nat → Int} {w k : Nat} (h : nbB f V w k = false) : ∀ q, nbB f V w (k + q) = false := by
  intro q
  induction q with
  | zero => exact h
  | succ q ih =>
    show (nbB f V w (k + q) && _) = false
    rw [ih]; rfl
theorem unR_S {f : Nat → Bool} {V : Nat → Int} {n : Nat} (hm : ∀ o w, o ≤ w → w < n → f o = true → f w = true → V o ≤ V w) : ∀ w, w ≤ n → (unS f V w).1 = unR f V w ∧ ((unS f V w).1 = 0 → ∀ o, o < w → f o = false) ∧ ((unS f V w).1 ≠ 0 → ∃ o, o < w ∧ f o = true ∧ (unS f V w).2 = V o ∧ ∀ o', o' < w → f o' = true → V o' ≤ V o) := by
  intro w
  induction w with
  | zero => intro _; exact ⟨rfl, fun _ o ho => absurd ho (Nat.not_lt_zero _), fun z => absurd rfl z⟩
  | succ w ih =>
    intro hw
    obtain ⟨a, b, c⟩ := ih (by omega)
    have rg := unS_rng f V w
    rw [unS, unR]
    cases hf : f w
    · have nb : ¬ nbB f V w w = true := fun z => by have := ((nbB_iff f V w w).mp z).1; rw [hf] at this; cases this
      rw [if_neg (by decide), if_neg nb, Int.add_zero]
      refine ⟨a, fun z o ho => ?_, fun z => ?_⟩
      · by_cases e : o = w
        · rw [e]; exact hf
        · exact b z o (by omega)
      · obtain ⟨o, o1, o2, o3, o4⟩ := c z
        refine ⟨o, by omega, o2, o3, fun o' h1 h2 => ?_⟩
        by_cases e : o' = w
        · rw [e, hf] at h2; cases h2
        · exact o4 o' (by omega) h2
    · rw [if_pos rfl]
      unfold stp
      by_cases z0 : (unS f V w).1 = 0
      · have nb : nbB f V w w = true := (nbB_iff f V w w).mpr ⟨hf, fun o ho h => by rw [b z0 o ho] at h; cases h⟩
        rw [if_pos (Or.inl z0), if_pos nb]
        refine ⟨by rw [← a], fun z => by have z' : (unS f V w).1 + 1 = 0 := z; omega, fun _ => ⟨w, by omega, hf, rfl, fun o' h1 h2 => ?_⟩⟩
        exact hm o' w (by omega) (by omega) h2 hf
      · obtain ⟨o, o1, o2, o3, o4⟩ := c z0
        by_cases z1 : (unS f V w).2 = V w
        · have nb : ¬ nbB f V w w = true := fun z => ((nbB_iff f V w w).mp z).2 o o1 o2 (by rw [← o3]; exact z1)
          rw [if_neg (fun z => by rcases z with z | z; exact z0 z; exact z z1), if_neg nb, Int.add_zero]
          refine ⟨a, fun z => absurd z z0, fun _ => ⟨o, by omega, o2, o3, fun o' h1 h2 => ?_⟩⟩
          by_cases e : o' = w
          · rw [e, ← o3, z1]; exact Int.le_refl _
          · exact o4 o' (by omega) h2
        · have lt : V o ≤ V w := hm o w (by omega) (by omega) o2 hf
          have ne : V o ≠ V w := fun e => z1 (by rw [o3]; exact e)
          have nb : nbB f V w w = true := (nbB_iff f V w w).mpr ⟨hf, fun o' h1 h2 e => by have := o4 o' h1 h2; omega⟩
          rw [if_pos (Or.inr z1), if_pos nb]
          refine ⟨by rw [← a], fun z => by have z' : (unS f V w).1 + 1 = 0 := z; omega, fun _ => ⟨w, by omega, hf, rfl, fun o' h1 h2 => ?_⟩⟩
          exact hm o' w (by omega) (by omega) h2 hf
