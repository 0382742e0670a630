/-! a step: what it makes of a table, and whether it is TOO MUCH -/
def zStep (Z Y : Nat → Int) (kind a b : Int) : Nat → Int := if kind = 0 then zLean Z a b b else if kind = 1 then zLean Z a 0 b else if kind = 2 then zLean Z a b 0 else if kind = 3 then zDrift Z a else if kind = 4 then zParts Z (plist Z a b true true 10001 0) a true else if kind = 5 then zParts Z (plist Z 0 0 true false 10001 0) 0 true else if kind = 6 then zParts Z (plist Z 0 0 false true 10001 0) 0 false else if kind = 7 then zPlus Z a else zAnd Z Y
/-- whether a weight would come beyond the places -/
def zBey (Z : Nat → Int) (kind a b : Int) : Bool := if kind = 3 then zWide (dlist Z a 10001 0) else if kind = 4 then zWide (plist Z a b true true 10001 0) else false
def okArg (kind a b : Int) : Prop := (0 ≤ kind ∧ kind ≤ 8) ∧ (kind ≤ 2 → (-500 ≤ a ∧ a ≤ 500) ∧ (0 ≤ b ∧ b ≤ 99)) ∧ (kind = 3 → -500 ≤ a ∧ a ≤ 500) ∧ (kind = 4 → (0 ≤ a ∧ a ≤ 99) ∧ (0 ≤ b ∧ b ≤ 99)) ∧ (kind = 7 → 0 ≤ a ∧ a ≤ 999)
theorem plist_0 (Z : Nat → Int) (fa ri : Bool) : ∀ (q s : Nat), s + q = 10001 → zWide (plist Z 0 0 fa ri q s) = false := by
  have app : ∀ L K : List (Int × Int), zWide L = false → zWide K = false → zWide (L ++ K) = false := by
    intro L
    induction L with
    | nil => intro K _ h; exact h
    | cons e L ih =>
      intro K h h'
      rw [zWide, Bool.or_eq_false_iff] at h
      rw [List.cons_append, zWide, ih K h.2 h', h.1]
      rfl
  intro q
  induction q with
  | zero => intro s _; rfl
  | succ q ih =>
    intro s hs
    have one : ∀ (p w : Int), -5000 ≤ p ∧ p ≤ 5000 → zWide [(p, w)] = false := fun p w h => by simp [zWide, h.1, h.2]
    rw [plist]
    refine app _ _ ?_ (app _ _ ?_ (ih (s + 1) (by omega)))
    · cases fa
      · rfl
      · exact one _ _ (by omega)
    · cases ri
      · rfl
      · exact one _ _ (by omega)
theorem zFall_le {Z : Nat → Int} (h : zInv Z) {x : Int} (h1 : -7000 ≤ x) (h2 : x ≤ 7000) : zFall Z x ≤ 220000000 ∧ zRise Z x ≤ 220000000 := by
  have a := (h.val h1 h2).2
  have b := zVal_parts h.1 x
  have c := zFall_nn h.1.1 x
  have d := zRise_nn h.1.1 x
  have e := h.2.2
  omega
/-- small enough for ints -/
def zSm (Z : Nat → Int) : Prop := zVee Z ∧ zWts Z ≤ 11000 ∧ 0 ≤ zLeast Z ∧ zLeast Z ≤ 1000000000
theorem zSm_of {Z : Nat → Int} (h : zVee Z) (hw : zWts Z ≤ 11000) (hp : ∀ x, 0 ≤ zVal Z x) (h0 : zVal Z 0 ≤ 1000000000) : zSm Z := by
  obtain ⟨x, hx⟩ := zLeast_at Z
  have a := hp x
  have b := zLeast_le h 0
  exact ⟨h, hw, by omega, by omega⟩
theorem zInv.pos {Z : Nat → Int} (h : zInv Z) (x : Int) : 0 ≤ zVal Z x := Int.le_trans h.2.2 (zLeast_le h.1 x)
theorem zLean_sm {Z : Nat → Int} (h : zInv Z) {a b c : Int} (ha : -500 ≤ a ∧ a ≤ 500) (hb : 0 ≤ b ∧ b ≤ 99) (hc : 0 ≤ c ∧ c ≤ 99) : zSm (zLean Z a b c) := by
  have v := zLean_vee h.1 (a := a) (b := b) (c := c) (by omega) hb.1 hc.1
  have w := h.2.1.1
  refine zSm_of v.1 (by omega) (fun x => ?_) ?_
  · rw [zLean_val Z (by omega)]
    have p := h.pos x
    have p1 : 0 ≤ b * max (a - x) 0 := Int.mul_nonneg hb.1 (by omega)
    have p2 : 0 ≤ c * max (x - a) 0 := Int.mul_nonneg hc.1 (by omega)
    omega
  · rw [zLean_val Z (by omega)]
    have p := (h.val (x := 0) (by omega) (by omega)).2
    have p1 : b * max (a - 0) 0 ≤ 99 * max (a - 0) 0 := Int.mul_le_mul_of_nonneg_right hb.2 (by omega)
    have p2 : c * max (0 - a) 0 ≤ 99 * max (0 - a) 0 := Int.mul_le_mul_of_nonneg_right hc.2 (by omega)
    omega
theorem zDrift_sm {Z : Nat → Int} (h : zInv Z) {d : Int} (hw : zWide (dlist Z d 10001 0) = false) : zSm (zDrift Z d) := by
  have v := zDrift_vee h.1 hw
  have l := zDrift_least h.1 hw
  have w := h.2.1
  have e := h.2.2
  exact ⟨v.1, by omega, by omega, by omega⟩
theorem zParts_sm {Z : Nat → Int} (h : zInv Z) {dn up : Int} (hd : 0 ≤ dn ∧ dn ≤ 1000) (hu : 0 ≤ up) {fa ri : Bool} (hw : zWide (plist Z dn up fa ri 10001 0) = false) : zSm (zParts Z (plist Z dn up fa ri 10001 0) dn fa) := by
  have v := zParts_vee h.1 hw
  have l := zParts_least h.1 hd hu hw
  have w := h.2.1
  have e := h.2.2
  exact ⟨v.1, by omega, by omega, by omega⟩
theorem zPlus_sm {Z : Nat → Int} (h : zInv Z) {a : Int} (ha : 0 ≤ a ∧ a ≤ 999) : zSm (zPlus Z a) := by
  have v := zPlus_vee h.1 a
  have l := zPlus_least h.1 a
  have w := h.2.1
  have e := h.2.2
  exact ⟨v.1, by omega, by omega, by omega⟩
theorem zAnd_sm {Z Y : Nat → Int} (h : zInv Z) (h' : zInv Y) : zSm (zAnd Z Y) := by
  have v := zAnd_vee h.1 h'.1
  have w := h.2.1.1
  have w' := h'.2.1.1
  refine zSm_of v.1 (by omega) (fun x => ?_) ?_
  · rw [zAnd_val]
    have p := h.pos x
    have p' := h'.pos x
    omega
  · rw [zAnd_val]
    have p := (h.val (x := 0) (by omega) (by omega)).2
    have p' := (h'.val (x := 0) (by omega) (by omega)).2
    omega
theorem zSm.sb {Z : Nat → Int} (h : zSm Z) : sb Z := fun j hj => by
  have a : Z 0 ≤ zS Z j := zS_le h.1.1 (Nat.zero_le j)
  have b := zS_top h.1.1 j
  have c := zS_all Z
  have d := h.1.2
  have e := h.2.1
  omega
theorem zSm.inv {Z : Nat → Int} (h : zSm Z) (k : zOk Z) : zInv Z := ⟨h.1, k, h.2.2.1⟩
theorem zOk_congr {Z Y : Nat → Int} (h : ∀ k, k < 10003 → Z k = Y k) : zOk Z ↔ zOk Y := by
  have a : zWts Z = zWts Y := by unfold zWts; rw [dlist_congr h 10001 0 (by omega)]
  have b : zLeast Z = zLeast Y := zLeast_congr h
  rw [zOk, zOk, a, b]
theorem zSm_congr {Z Y : Nat → Int} (h : ∀ k, k < 10003 → Z k = Y k) (s : zSm Z) : zSm Y := by
  have a : zWts Z = zWts Y := by unfold zWts; rw [dlist_congr h 10001 0 (by omega)]
  have b : zLeast Z = zLeast Y := zLeast_congr h
  obtain ⟨⟨v1, v2, v3⟩, s2, s3, s4⟩ := s
  exact ⟨⟨fun k k1 k2 => by rw [← h k k2]; exact v1 k k1 k2, by rw [← h 0 (by omega)]; exact v2, by rw [← zS_congr h]; exact v3⟩, by omega, by omega, by omega⟩
/-- the verdict -/
theorem goes_tail (N : Nat) (hN : 10002 ≤ N) {A : Nat → Nat} {m : Nat} {h : hS} (M : MO A m h) (G : Nat → Nat → Int32) (Z : Nat → Int) (w : Bool) (hz : ∀ k, k < 10003 → zi (G (A 4)) k = Z k) (h9 : G m 9 = if w = true then 1 else 0) (hs : w = false → zSm Z) : f_M_goes_147 N (w_i h G) m = some (if w = false ∧ zOk Z then 1 else 0, w_i h G) := by
  cases w with
  | true =>
    unfold f_M_goes_147
    rw [gI_at (M.wi G), h_i_wi, h9, if_pos rfl, if_neg (show ¬ (1 : Int32) = 0 by decide), if_neg (show ¬ (true = false ∧ zOk Z) by simp)]
    unfold f_M_goes_185 f_M_goes_186 bz
    rw [if_pos (Or.inl rfl)]
  | false =>
    have s := zSm_congr (fun k hk => (hz k hk).symm) (hs rfl)
    have n0 : 0 ≤ zWts (zi (G (A 4))) := by
      have a := zS_all (zi (G (A 4)))
      have b := s.1.2
      omega
    have b1 := s.2.1
    have b2 := s.2.2
    rw [goes_end N hN (M.wi G) (by rw [h_i_wi]; exact s.sb) (by rw [h_i_wi]; omega) (by rw [h_i_wi]; omega), h_i_wi, h9]
    by_cases o : zOk Z
    · rw [if_pos ⟨rfl, (zOk_congr hz).mpr o⟩, if_pos ⟨rfl, o⟩]
    · rw [if_neg (fun q => o ((zOk_congr hz).mp q.2)), if_neg (fun q => o q.2)]
theorem aR_at {A : Nat → Nat} {m : Nat} {h : hS} (M : MO A m h) {β : Type} {i n : Nat} {z : Int} {f : Option Nat → Option β} (hi : (i, 60, n) ∈ mrows) (h0 : 0 ≤ z) (hj : z < n) (hn : n < 2 ^ 31) : aR h 60 (some (A i)) (iI z) f = f (h_r h (A i) z.toNat) := by
  have e : h_k h (A i) = 60 ∧ h_n h (A i) = n := (M.2.1 _ hi).2
  rw [show iI z = nI z.toNat by rw [nI_iI]; congr 1; omega]
  have h1 : inb (nI z.toNat) (h_n h (A i)) := by rw [e.2]; exact nI_in (by omega) hn
  show (if h_k h (A i) = 60 ∧ inb (nI z.toNat) (h_n h (A i)) then f (h_r h (A i) (nI z.toNat).toNatClampNeg) else none) = _
  rw [if_pos ⟨e.1, h1⟩, nI_clamp (by omega)]
