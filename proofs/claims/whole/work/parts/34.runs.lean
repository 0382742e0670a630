/-! runs: a COST told from its STEPS -/
/-- the table ahead of step i; lo is left out -/
def zT (p : Nat → Int × Int × Int) (Y : Nat → Nat → Int) (lo : Int) : Nat → Nat → Int
  | 0 => fun _ => 0
  | i + 1 => if (i : Int) = lo then zT p Y lo i else zStep (zT p Y lo i) (Y i) (p i).1 (p i).2.1 (p i).2.2
/-- step i isn't TOO MUCH -/
def okS (p : Nat → Int × Int × Int) (Y : Nat → Nat → Int) (lo : Int) (i : Nat) : Prop := (i : Int) = lo ∨ (zBey (zT p Y lo i) (p i).1 (p i).2.1 (p i).2.2 = false ∧ zOk (zT p Y lo (i + 1)))
theorem zT_skip {p : Nat → Int × Int × Int} {Y : Nat → Nat → Int} {lo : Int} {i : Nat} (h : (i : Int) = lo) : zT p Y lo (i + 1) = zT p Y lo i := by rw [zT, if_pos h]
theorem zT_go {p : Nat → Int × Int × Int} {Y : Nat → Nat → Int} {lo : Int} {i : Nat} (h : ¬ (i : Int) = lo) : zT p Y lo (i + 1) = zStep (zT p Y lo i) (Y i) (p i).1 (p i).2.1 (p i).2.2 := by rw [zT, if_neg h]
theorem zStep_sm {Z Y : Nat → Int} (h : zInv Z) {kind a b : Int} (hk : okArg kind a b) (hy : kind = 8 → zInv Y) (hb : zBey Z kind a b = false) : zSm (zStep Z Y kind a b) := by
  obtain ⟨hk0, hk1, hk3, hk4, hk7⟩ := hk
  unfold zStep
  unfold zBey at hb
  by_cases k0 : kind = 0
  · rw [if_pos k0]; exact zLean_sm h (hk1 (by omega)).1 (hk1 (by omega)).2 (hk1 (by omega)).2
  rw [if_neg k0]
  by_cases k1 : kind = 1
  · rw [if_pos k1]; exact zLean_sm h (hk1 (by omega)).1 (by omega) (hk1 (by omega)).2
  rw [if_neg k1]
  by_cases k2 : kind = 2
  · rw [if_pos k2]; exact zLean_sm h (hk1 (by omega)).1 (hk1 (by omega)).2 (by omega)
  rw [if_neg k2]
  by_cases k3 : kind = 3
  · rw [if_pos k3] at hb ⊢; exact zDrift_sm h hb
  rw [if_neg k3] at hb ⊢
  by_cases k4 : kind = 4
  · rw [if_pos k4] at hb ⊢; have q := hk4 k4; exact zParts_sm h (by omega) (by omega) hb
  rw [if_neg k4]
  by_cases k5 : kind = 5
  · rw [if_pos k5]; exact zParts_sm h (by omega) (by omega) (plist_0 _ _ _ 10001 0 (by omega))
  rw [if_neg k5]
  by_cases k6 : kind = 6
  · rw [if_pos k6]; exact zParts_sm h (by omega) (by omega) (plist_0 _ _ _ 10001 0 (by omega))
  rw [if_neg k6]
  by_cases k7 : kind = 7
  · rw [if_pos k7]; exact zPlus_sm h (hk7 k7)
  rw [if_neg k7]
  exact zAnd_sm h (hy (by omega))
/-- the table on top, in a store -/
def onB (A : Nat → Nat) (h : hS) (G : Nat → Nat → Int32) (t : Int) (Y : Nat → Int) : Prop := ∃ c, (0 ≤ t ∧ t < 1000) ∧ h_r h (A 7) t.toNat = some c ∧ ro h c 10003 ∧ (A 4 ≠ c ∧ A 5 ≠ c ∧ A 6 ≠ c) ∧ tEq (zi (G c)) Y ∧ zInv Y
/-- what runs may change -/
def sG (A : Nat → Nat) (m : Nat) (G G' : Nat → Nat → Int32) : Prop := (∀ q, q ≠ A 4 → q ≠ A 6 → q ≠ A 10 → q ≠ A 11 → q ≠ m → G' q = G q) ∧ ∀ k, k ≠ 9 → k ≠ 12 → G' m k = G m k
theorem sG.trans {A : Nat → Nat} {m : Nat} {G G' H : Nat → Nat → Int32} (a : sG A m G G') (b : sG A m G' H) : sG A m G H := ⟨fun q h1 h2 h3 h4 h5 => (b.1 q h1 h2 h3 h4 h5).trans (a.1 q h1 h2 h3 h4 h5), fun k h1 h2 => (b.2 k h1 h2).trans (a.2 k h1 h2)⟩
theorem ro_ne {h : hS} {a b n k : Nat} (x : ro h a n) (y : ro h b k) (hnk : n ≠ k) : a ≠ b := fun q => hnk (by have e := x.2; rw [q, y.2] at e; exact e.symm)
/-- the STEPS as they stand in a row -/
def rows (A : Nat → Nat) (m : Nat) (h : hS) (G : Nat → Nat → Int32) (r k n : Nat) (p : Nat → Int × Int × Int) (Y : Nat → Nat → Int) (lo : Int) : Prop :=
  ro h r 644 ∧ n ≤ 40 ∧ k + 161 ≤ 644 ∧ G r k = iI n ∧ (G m 13 = iI lo ∧ (-1 ≤ lo ∧ lo ≤ 100)) ∧ (∃ os : Int, G m 14 = iI os ∧ -1 ≤ os ∧ os ≤ 100 ∧
  ∀ i, i < n → ¬ (i : Int) = lo → G r (k + 1 + 4 * i) = iI (p i).1 ∧ G r (k + 1 + 4 * i + 1) = iI (p i).2.1 ∧ (if (i : Int) = os then G m 15 else G r (k + 1 + 4 * i + 2)) = iI (p i).2.2 ∧ okArg (p i).1 (p i).2.1 (p i).2.2 ∧ ∃ t : Int, G r (k + 1 + 4 * i + 3) = iI t ∧ ((p i).1 = 8 → onB A h G t (Y i)))
theorem runs_stop (N : Nat) {A : Nat → Nat} {m : Nat} {h : hS} (M : MO A m h) (G : Nat → Nat → Int32) {r k n j : Nat} (hr : ro h r 644) (hk : k < 644) (hn : 0 < n) (h12 : G m 12 ≠ -1) : f_M_runs_21 N n (w_i h G) m r (iI k) (iI j) = some (0, w_i h G) := by
  obtain ⟨n, rfl⟩ : ∃ q, n = q + 1 := ⟨n - 1, by omega⟩
  have e : f_M_runs_144 N (w_i h G) m = some (0, w_i h G) := by
    unfold f_M_runs_144 f_M_runs_157 bz
    rw [gI_at (M.wi G), h_i_wi, if_neg h12, if_pos (Or.inl rfl)]
  unfold f_M_runs_21
  rw [aI_iI (h := w_i h G) (a := r) (n := 644) hr (by omega) (by omega) (by omega), gI_at (M.wi G), h_i_wi, if_neg h12, e]
  split <;> rfl
