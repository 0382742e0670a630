/-! goes' answer, whole; tables that agree on all their places -/
def tEq (Z Y : Nat → Int) : Prop := ∀ k, k < 10003 → Z k = Y k
theorem tEq.symm {Z Y : Nat → Int} (h : tEq Z Y) : tEq Y Z := fun k hk => (h k hk).symm
theorem tEq.trans {Z Y X : Nat → Int} (h : tEq Z Y) (h' : tEq Y X) : tEq Z X := fun k hk => (h k hk).trans (h' k hk)
theorem tEq.inv {Z Y : Nat → Int} (h : tEq Z Y) (i : zInv Z) : zInv Y := by
  obtain ⟨⟨v1, v2, v3⟩, o, l⟩ := i
  exact ⟨⟨fun k k1 k2 => by rw [← h k k2]; exact v1 k k1 k2, by rw [← h 0 (by omega)]; exact v2, by rw [← zS_congr h]; exact v3⟩, (zOk_congr h).mp o, by rw [← zLeast_congr h]; exact l⟩
theorem tEq.bey {Z Y : Nat → Int} (h : tEq Z Y) (kind a b : Int) : zBey Z kind a b = zBey Y kind a b := by
  unfold zBey
  rw [dlist_congr h 10001 0 (by omega), plist_congr h 10001 0 (by omega)]
theorem tEq.lean {Z Y : Nat → Int} (h : tEq Z Y) (a b c : Int) : tEq (zLean Z a b c) (zLean Y a b c) := fun k hk => by
  unfold zLean
  rw [h 0 (by omega), h 1 (by omega), h k hk]
theorem tEq.drift {Z Y : Nat → Int} (h : tEq Z Y) (d : Int) : tEq (zDrift Z d) (zDrift Y d) := fun k hk => by
  unfold zDrift
  rw [h 0 (by omega), zVal_congr h]
  by_cases c : 2 ≤ (k : Int) - d ∧ (k : Int) - d ≤ 10002
  · rw [if_pos c, if_pos c, h _ (by omega)]
  · rw [if_neg c, if_neg c]
theorem tEq.parts {Z Y : Nat → Int} (h : tEq Z Y) (dn up : Int) (fa ri : Bool) : tEq (zParts Z (plist Z dn up fa ri 10001 0) dn fa) (zParts Y (plist Y dn up fa ri 10001 0) dn fa) := fun k hk => by
  unfold zParts
  rw [h 0 (by omega), zPv_congr h, zLeast_congr h, zTurn_congr h, plist_congr h 10001 0 (by omega)]
theorem tEq.step {Z Y X W : Nat → Int} (h : tEq Z Y) (kind a b : Int) (h' : kind = 8 → tEq X W) (hk : 0 ≤ kind ∧ kind ≤ 8) : tEq (zStep Z X kind a b) (zStep Y W kind a b) := by
  unfold zStep
  by_cases k0 : kind = 0
  · rw [if_pos k0, if_pos k0]; exact h.lean a b b
  rw [if_neg k0, if_neg k0]
  by_cases k1 : kind = 1
  · rw [if_pos k1, if_pos k1]; exact h.lean a 0 b
  rw [if_neg k1, if_neg k1]
  by_cases k2 : kind = 2
  · rw [if_pos k2, if_pos k2]; exact h.lean a b 0
  rw [if_neg k2, if_neg k2]
  by_cases k3 : kind = 3
  · rw [if_pos k3, if_pos k3]; exact h.drift a
  rw [if_neg k3, if_neg k3]
  by_cases k4 : kind = 4
  · rw [if_pos k4, if_pos k4]; exact h.parts a b true true
  rw [if_neg k4, if_neg k4]
  by_cases k5 : kind = 5
  · rw [if_pos k5, if_pos k5]; exact h.parts 0 0 true false
  rw [if_neg k5, if_neg k5]
  by_cases k6 : kind = 6
  · rw [if_pos k6, if_pos k6]; exact h.parts 0 0 false true
  rw [if_neg k6, if_neg k6]
  by_cases k7 : kind = 7
  · rw [if_pos k7, if_pos k7]; exact fun k hk => by unfold zPlus; rw [h 1 (by omega), h k hk]
  rw [if_neg k7, if_neg k7]
  exact fun k hlt => by unfold zAnd; rw [h k hlt, h' (by omega) k hlt]
theorem gRes.congr {A : Nat → Nat} {m : Nat} {h : hS} {G : Nat → Nat → Int32} {Z Y : Nat → Int} {w : Bool} {r : Option (Int32 × hS)} (g : gRes A m h G Z w r) (e : tEq Z Y) : gRes A m h G Y w r := by
  obtain ⟨G', g1, g2, g3, g4⟩ := g
  refine ⟨G', ?_, g2, g3, fun k hk => (g4 k hk).trans (e k hk)⟩
  rw [g1]
  by_cases o : w = false ∧ zOk Z
  · rw [if_pos o, if_pos ⟨o.1, (zOk_congr e).mp o.2⟩]
  · rw [if_neg o, if_neg (fun q => o ⟨q.1, (zOk_congr e).mpr q.2⟩)]
/-- the table on top that a step names -/
def onT (A : Nat → Nat) (m : Nat) (h : hS) (G : Nat → Nat → Int32) (t : Int) (Y : Nat → Int) : Prop := ∃ c, (0 ≤ t ∧ t < 1000) ∧ h_r h (A 7) t.toNat = some c ∧ ro h c 10003 ∧ A 4 ≠ c ∧ c ≠ m ∧ tEq (zi (G c)) Y ∧ zInv Y
theorem goes_is (N : Nat) (hN : 10004 ≤ N) {A : Nat → Nat} {m : Nat} {h : hS} (M : MO A m h) (G : Nat → Nat → Int32) {Z Y : Nat → Int} (hZ : tEq (zi (G (A 4))) Z) (hI : zInv Z) {kind a b t : Int} (hk : okArg kind a b) (ht : kind = 8 → onT A m h G t Y) : gRes A m h G (zStep Z Y kind a b) (zBey Z kind a b) (f_M_goes N (w_i h G) m (iI kind) (iI a) (iI b) (iI t)) := by
  have hI' := hZ.symm.inv hI
  obtain ⟨hk0, hk1, hk3, hk4, hk7⟩ := hk
  have ne : ∀ c : Int, 0 ≤ c → c ≤ 8 → kind ≠ c → ¬ iI kind = iI c := fun c c0 c8 q e => q ((iI_eq (by omega) (by omega)).mp e)
  unfold f_M_goes
  rw [pZ_at (M.wi G) (Or.inl rfl), s_i_wi]
  rw [show va_up G m (upd (G m) 9 0) = fl m G from rfl]
  by_cases k0 : kind = 0
  · subst k0
    rw [if_pos (show iI 0 = (0 : Int32) from rfl)]
    exact (goes_lean N hN M G hI' (hk1 (by omega)).1 (hk1 (by omega)).2 (hk1 (by omega)).2).congr (hZ.lean a b b)
  rw [if_neg (show ¬ iI kind = (0 : Int32) from ne 0 (by omega) (by omega) k0)]
  by_cases k1 : kind = 1
  · subst k1
    rw [if_pos (show iI 1 = (1 : Int32) from rfl)]
    exact (goes_lean N hN M G hI' (c := b) (b := 0) (hk1 (by omega)).1 (by omega) (hk1 (by omega)).2).congr (hZ.lean a 0 b)
  rw [if_neg (show ¬ iI kind = (1 : Int32) from ne 1 (by omega) (by omega) k1)]
  by_cases k2 : kind = 2
  · subst k2
    rw [if_pos (show iI 2 = (2 : Int32) from rfl)]
    exact (goes_lean N hN M G hI' (c := 0) (b := b) (hk1 (by omega)).1 (hk1 (by omega)).2 (by omega)).congr (hZ.lean a b 0)
  rw [if_neg (show ¬ iI kind = (2 : Int32) from ne 2 (by omega) (by omega) k2)]
  by_cases k3 : kind = 3
  · subst k3
    rw [if_pos (show iI 3 = (3 : Int32) from rfl)]
    have g := (goes_drift N hN M G hI' (hk3 rfl)).congr (hZ.drift a)
    rw [dlist_congr hZ 10001 0 (by omega)] at g
    exact g
  rw [if_neg (show ¬ iI kind = (3 : Int32) from ne 3 (by omega) (by omega) k3)]
  by_cases k4 : kind = 4
  · subst k4
    rw [if_pos (show iI 4 = (4 : Int32) from rfl)]
    have q := hk4 rfl
    have g := (goes_parts N hN M G hI' (dn := a) (up := b) (by omega) (by omega) true true _ rfl).congr (hZ.parts a b true true)
    rw [plist_congr hZ 10001 0 (by omega)] at g
    exact g
  rw [if_neg (show ¬ iI kind = (4 : Int32) from ne 4 (by omega) (by omega) k4)]
  by_cases k5 : kind = 5
  · subst k5
    rw [if_pos (show iI 5 = (5 : Int32) from rfl)]
    have g := (goes_parts N hN M G hI' (dn := 0) (up := 0) (by omega) (by omega) true false _ rfl).congr (hZ.parts 0 0 true false)
    rw [plist_0 _ true false 10001 0 (by omega)] at g
    exact g
  rw [if_neg (show ¬ iI kind = (5 : Int32) from ne 5 (by omega) (by omega) k5)]
  by_cases k6 : kind = 6
  · subst k6
    rw [if_pos (show iI 6 = (6 : Int32) from rfl)]
    have g := (goes_parts N hN M G hI' (dn := 0) (up := 0) (by omega) (by omega) false true _ rfl).congr (hZ.parts 0 0 false true)
    rw [plist_0 _ false true 10001 0 (by omega)] at g
    exact g
  rw [if_neg (show ¬ iI kind = (6 : Int32) from ne 6 (by omega) (by omega) k6)]
  have eb : zBey Z kind a b = false := by unfold zBey; rw [if_neg k3, if_neg k4]
  rw [eb]
  unfold zStep
  rw [if_neg k0, if_neg k1, if_neg k2, if_neg k3, if_neg k4, if_neg k5, if_neg k6]
  by_cases k7 : kind = 7
  · rw [if_pos k7]
    subst k7
    rw [if_pos (show iI 7 = (7 : Int32) from rfl)]
    exact (goes_plus N hN M G hI' (hk7 rfl)).congr (fun k hk => by unfold zPlus; rw [hZ 1 (by omega), hZ k hk])
  rw [if_neg (show ¬ iI kind = (7 : Int32) from ne 7 (by omega) (by omega) k7), if_neg k7]
  obtain ⟨c, t0, t1, t2, t3, t4, t5, t6⟩ := ht (by omega)
  exact (goes_and N hN M G hI' t0 t1 t2 t3 t4 (t5.symm.inv t6)).congr (fun k hk => by unfold zAnd; rw [hZ k hk, t5 k hk])
