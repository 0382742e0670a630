/-! THE REFERENCE: SHARING, its numbers -/
section
variable {Z Y : Nat → Int}
/-- a place at which the table comes by the slope s -/
def zTp (Z : Nat → Int) (s : Int) : Int := if s ≤ Z 0 then -5000 else zTurn Z s
/-- what stands against the table at the slope s -/
def zCj (Z : Nat → Int) (s : Int) : Int := s * zTp Z s - zVal Z (zTp Z s)
theorem zTp_congr (h : tEq Z Y) (s : Int) : zTp Z s = zTp Y s := by
  unfold zTp
  rw [zTurn_congr h, h 0 (by omega)]
theorem zCj_congr (h : tEq Z Y) (s : Int) : zCj Z s = zCj Y s := by
  unfold zCj
  rw [zTp_congr h, zVal_congr h]
theorem zFlatB (hn : zNn Z) {s p : Int} (h1 : zTurn Z s ≤ p) (h0 : -100000000 ≤ p) : ∀ n : Nat, p + n ≤ zTurn Z (s + 1) → zVal Z (p + n) - s * (p + n) = zVal Z p - s * p := by
  have r := zTurn_rng Z (s + 1)
  intro n
  induction n with
  | zero => intro _; simp
  | succ n ih =>
    intro h2
    have a := (turn_iff hn s (p + n) (by omega) (by omega)).mp (by omega)
    have b : ¬ (s + 1 ≤ zSlp Z (p + n)) := fun z => by
      have := (turn_iff hn (s + 1) (p + n) (by omega) (by omega)).mpr z
      omega
    have i := ih (by omega)
    unfold zSlp at a b
    rw [show p + ((n + 1 : Nat) : Int) = p + n + 1 by omega, Int.mul_add s (p + n) 1, Int.mul_one]
    generalize s * (p + (n : Int)) = u at *
    generalize s * p = v at *
    omega
theorem zFlatC (hn : zNn Z) {s p q : Int} (h1 : zTurn Z s ≤ p) (h2 : p ≤ q) (h3 : q ≤ zTurn Z (s + 1)) (h0 : -100000000 ≤ p) : zVal Z q - s * q = zVal Z p - s * p := by
  obtain ⟨n, e⟩ : ∃ n : Nat, q = p + n := ⟨(q - p).toNat, by omega⟩
  subst e
  exact zFlatB hn h1 h0 n h3
theorem zTp_rng (hn : zNn Z) {s : Int} (h1 : Z 0 ≤ s) (h2 : s ≤ zS Z 10001) : (-5000 ≤ zTp Z s ∧ zTp Z s ≤ 5000) ∧ zTurn Z s ≤ zTp Z s ∧ zTp Z s ≤ zTurn Z (s + 1) := by
  obtain ⟨f1, f2, f3⟩ := turn_le hn s h1 h2
  have ti := fun q => turn_in (Z := Z) (s := s) q h2
  clear h2
  unfold zTp
  by_cases q : s ≤ Z 0
  · have e : zTurn Z s = -100000000 := by unfold zTurn; rw [if_pos q]
    rw [if_pos q]
    omega
  · have := ti (by omega)
    rw [if_neg q]
    omega
theorem zCj_st (hn : zNn Z) {s : Int} (h1 : Z 0 ≤ s) (h2 : s ≤ zS Z 10001) : zVal Z (zStand Z s) - s * zStand Z s = -zCj Z s := by
  have t := zTp_rng hn h1 h2
  have sr := stand_rng hn h1 h2
  obtain ⟨f1, f2, f3⟩ := turn_le hn s h1 h2
  clear h2
  have b : zTurn Z s ≤ zStand Z s ∧ zStand Z s ≤ zTurn Z (s + 1) := by
    unfold zStand zNear
    split
    · omega
    · split <;> omega
  unfold zCj
  rcases Int.le_total (zTp Z s) (zStand Z s) with q | q
  · have := zFlatC hn t.2.1 q b.2 (by omega)
    omega
  · have := zFlatC hn b.1 q t.2.2 (by omega)
    omega
theorem zCj_d (hn : zNn Z) {s : Int} (h1 : Z 0 ≤ s) (h2 : s + 1 ≤ zS Z 10001) : zCj Z (s + 1) = zCj Z s + zTurn Z (s + 1) := by
  have t := zTp_rng hn h1 (Int.le_trans (by omega : s ≤ s + 1) h2)
  have u := turn_in (Z := Z) (s := s + 1) (by omega) h2
  clear h2
  have e : zTp Z (s + 1) = zTurn Z (s + 1) := by unfold zTp; rw [if_neg (by omega)]
  have c := zFlatC hn t.2.1 (q := zTurn Z (s + 1)) t.2.2 (Int.le_refl _) (by omega)
  unfold zCj
  rw [e, Int.add_mul, Int.one_mul]
  omega
theorem zT_at (hn : zNn Z) {k : Nat} (hk : k < 10001) {y : Int} (h1 : zS Z k < y) (h2 : y ≤ zS Z (k + 1)) : zTp Z y = (k : Int) - 5000 := by
  have e1 := slp_S Z (k + 1)
  have e0 := slp_S Z k
  have f0 := (slp_far hn ((k : Int) - 5001)).1
  rw [show ((k + 1 : Nat) : Int) - 5001 = (k : Int) - 5000 by omega] at e1
  rw [← e1] at h2
  rw [← e0] at h1
  clear e0 e1
  have a := (turn_iff hn y ((k : Int) - 5000) (by omega) (by omega)).mpr h2
  have b : ¬ zTurn Z y ≤ (k : Int) - 5001 := fun z => by
    have := (turn_iff hn y ((k : Int) - 5001) (by omega) (by omega)).mp z
    omega
  unfold zTp
  rw [if_neg (by omega)]
  omega
theorem mul_bd {s p : Int} {a b : Nat} (h1 : s.natAbs ≤ a) (h2 : p.natAbs ≤ b) : (s * p).natAbs ≤ a * b := by
  rw [Int.natAbs_mul]
  exact Nat.mul_le_mul h1 h2
end
section
variable {C : Cs}
theorem tLo_app (C : Cs) (c : Nat) : ∀ (cs : List Nat) (a : Int), tLo C (cs ++ [c]) a = max (tLo C cs a) (zC C c 0) := by
  intro cs
  induction cs with
  | nil => intro a; rfl
  | cons d t ih => intro a; exact ih _
theorem tHi_app (C : Cs) (c : Nat) : ∀ (cs : List Nat) (a : Int), tHi C (cs ++ [c]) a = min (tHi C cs a) (zS (zC C c) 10001) := by
  intro cs
  induction cs with
  | nil => intro a; rw [List.nil_append, tHi, tHi, tHi]
  | cons d t ih => intro a; rw [List.cons_append, tHi, ih, tHi]
theorem gSum_app (C : Cs) (c : Nat) (s : Int) : ∀ (cs : List Nat), gSum C (cs ++ [c]) s = gSum C cs s + (zVal (zC C c) (zStand (zC C c) s) - s * zStand (zC C c) s) := by
  intro cs
  induction cs with
  | nil =>
    show zVal (zC C c) (zStand (zC C c) s) - s * zStand (zC C c) s + 0 = 0 + _
    rw [Int.add_zero, Int.zero_add]
  | cons d t ih =>
    show zVal (zC C d) (zStand (zC C d) s) - s * zStand (zC C d) s + gSum C (t ++ [c]) s = zVal (zC C d) (zStand (zC C d) s) - s * zStand (zC C d) s + gSum C t s + _
    rw [ih, Int.add_assoc]
theorem gSum_d {cs : List Nat} {s : Int} (hv : ∀ c ∈ cs, zNn (zC C c) ∧ zC C c 0 ≤ s ∧ s + 1 ≤ zS (zC C c) 10001) : gSum C cs (s + 1) = gSum C cs s - tSum C cs (s + 1) := by
  induction cs with
  | nil => rfl
  | cons c t ih =>
    obtain ⟨h1, h2, h3⟩ := hv c (by simp)
    have e := zCj_d h1 h2 h3
    have a1 := zCj_st h1 (s := s + 1) (by omega) h3
    have a0 := zCj_st h1 h2 (Int.le_trans (by omega : s ≤ s + 1) h3)
    have i := ih (fun d hd => hv d (by simp [hd]))
    clear h3 ih hv
    rw [gSum, gSum, tSum, a1, a0, i]
    omega
theorem gSum_up {cs : List Nat} (hv : ∀ c ∈ cs, zVee (zC C c)) {s : Int} (h1 : tLo C cs (-5000) ≤ s) (h2 : s < tHi C cs 5000) : gSum C cs (s + 1) = gSum C cs s - tSum C cs (s + 1) :=
  gSum_d (fun c hc => ⟨(hv c hc).1, Int.le_trans ((tLo_le C cs (-5000)).2 c hc) h1, Int.le_trans (by omega : s + 1 ≤ tHi C cs 5000) ((tHi_le C cs 5000).2 c hc)⟩)
theorem gSum_dec {cs : List Nat} (hv : ∀ c ∈ cs, zVee (zC C c)) {b x : Int} (h1 : tLo C cs (-5000) ≤ b) (hx : x ≤ tSum C cs (b + 1)) : ∀ n : Nat, b + n ≤ tHi C cs 5000 → (b + n) * x + gSum C cs (b + n) ≤ b * x + gSum C cs b := by
  intro n
  induction n with
  | zero => intro _; simp
  | succ n ih =>
    intro h2
    have i := ih (by omega)
    have e := gSum_up hv (s := b + n) (by omega) (by omega)
    have t := tSum_mono hv (show b + 1 ≤ b + n + 1 by omega)
    rw [show b + ((n + 1 : Nat) : Int) = b + n + 1 by omega, Int.add_mul (b + n) 1 x, Int.one_mul, e]
    omega
theorem gSum_bd {s : Int} (hs : -5000 ≤ s ∧ s ≤ 5000) : ∀ (cs : List Nat), (∀ c ∈ cs, zInv (zC C c) ∧ zC C c 0 ≤ s ∧ s ≤ zS (zC C c) 10001) → -(300000000 * (cs.length : Int)) ≤ gSum C cs s ∧ gSum C cs s ≤ 300000000 * (cs.length : Int) := by
  intro cs
  induction cs with
  | nil => intro _; simp [gSum]
  | cons c t ih =>
    intro hv
    obtain ⟨h1, h2, h3⟩ := hv c (by simp)
    have sr := stand_rng h1.1.1 h2 h3
    have v := h1.val2 sr.1 sr.2
    have mb := mul_bd (s := s) (p := zStand (zC C c) s) (a := 5000) (b := 5000) (by omega) (by omega)
    have i := ih (fun d hd => hv d (by simp [hd]))
    clear h3 ih hv
    rw [gSum, List.length_cons, show ((t.length + 1 : Nat) : Int) = (t.length : Int) + 1 by omega]
    generalize s * zStand (zC C c) s = u at *
    omega
end
