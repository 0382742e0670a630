/-! THE REFERENCE'S ASKERS, beside the class's: gap, leads, meet -/
section
variable {ρ : Nat → Nat} {A : Nat → Nat} {m : Nat} {h g u : hS} {F F' : FT} {Z Y : Nat → Int}
/-- two rows of values -/
def VJ (A : Nat → Nat) (h : hS) (Z Y : Nat → Int) : Prop := ∀ j, j < 2001 → h_j h (A 36) j = lI (zVal Z ((j : Int) - 1000)) ∧ h_j h (A 37) j = lI (zVal Y ((j : Int) - 1000))
theorem VJ.at36 {β : Type} (M : MO A m h) (V : VJ A h Z Y) {x : Int} (hx : -1000 ≤ x ∧ x ≤ 1000) {f : Int64 → Option β} : aJ h (some (A 36)) (iI (1000 + x)) f = f (lI (zVal Z x)) := by
  have m36 : (36, 51, 2001) ∈ mrows := by decide
  rw [show iI (1000 + x) = iI (((1000 + x).toNat : Nat) : Int) by congr 1; omega, aJ_i (n := 2001) ⟨(M.2.1 _ m36).2.1, (M.2.1 _ m36).2.2⟩ (by omega) (by omega), (V _ (by omega)).1]
  congr 3; omega
theorem VJ.at37 {β : Type} (M : MO A m h) (V : VJ A h Z Y) {x : Int} (hx : -1000 ≤ x ∧ x ≤ 1000) {f : Int64 → Option β} : aJ h (some (A 37)) (iI (1000 + x)) f = f (lI (zVal Y x)) := by
  have m37 : (37, 51, 2001) ∈ mrows := by decide
  rw [show iI (1000 + x) = iI (((1000 + x).toNat : Nat) : Int) by congr 1; omega, aJ_i (n := 2001) ⟨(M.2.1 _ m37).2.1, (M.2.1 _ m37).2.2⟩ (by omega) (by omega), (V _ (by omega)).2]
  congr 3; omega
theorem gap28 (N : Nat) (M : MO A m h) (V : VJ A h Z Y) (hZ : zInv Z) (hY : zInv Y) : ∀ (q : Nat) (x acc : Int) (fuel : Nat), x + q = 501 → -500 ≤ x → (0 ≤ acc ∧ acc ≤ 1000000000) → f_M_gap_28 N (q + (fuel + 1)) h m (lI acc) (iI x) = some (lI (zGp Z Y q x acc), h) := by
  intro q
  induction q with
  | zero =>
    intro x acc fuel hx h1 ha
    rw [Nat.zero_add, zGp]
    unfold f_M_gap_28
    rw [if_pos (show (500 : Int32) < iI x from (iI_lt (a := 500) (by omega) (by omega)).mpr (by omega))]
  | succ q ih =>
    intro x acc fuel hx h1 ha
    have b1 := hZ.val2 (x := x) (by omega) (by omega)
    have b2 := hY.val2 (x := x) (by omega) (by omega)
    rw [zGp, show q + 1 + (fuel + 1) = (q + (fuel + 1)) + 1 by omega]
    conv => lhs; unfold f_M_gap_28
    rw [if_neg (show ¬ (500 : Int32) < iI x from fun z => by have := (iI_lt (a := 500) (by omega) (by omega)).mp z; omega), gR_at M (i := 36) (k := 51) (n := 2001) (by decide), show (1000 : Int32) + iI x = iI (1000 + x) by rw [show (1000 : Int32) = iI 1000 from rfl, iI_add], V.at36 M (by omega), gR_at M (i := 37) (k := 51) (n := 2001) (by decide), V.at37 M (by omega), lI_sub, jabl_is (by omega), jmxl_is (by omega) (by split <;> omega), bn_i, bn_i, show iI x + (1 : Int32) = iI (x + 1) by rw [show (1 : Int32) = iI 1 from rfl, iI_add]]
    exact ih (x + 1) _ fuel (by omega) (by omega) (by split <;> omega)
theorem gap_M (N : Nat) (hN : 30000 ≤ N) (X : RM ρ A m h F) {c d : Int} (hc : i32 c) (hd : i32 d) : RX ρ A m h (if (0 ≤ c ∧ c ≤ 3) ∧ (0 ≤ d ∧ d ≤ 3) then lI (zGp (zC F.1.1 c.toNat) (zC F.1.1 d.toNat) 1001 (-500) 0) else 0) F (if (0 ≤ c ∧ c ≤ 3) ∧ (0 ≤ d ∧ d ≤ 3) then 0 else 1) (f_M_gap N h m (iI c) (iI d)) := by
  obtain ⟨X1, c1⟩ := X.code 0
  have M1 := X1.1.1
  by_cases q : (0 ≤ c ∧ c ≤ 3) ∧ (0 ≤ d ∧ d ≤ 3)
  · rw [if_pos q, if_pos q]
    obtain ⟨g, e1, f1, k1, V, z1, z2⟩ := laysBoth_y N hN X1 q.1 q.2
    obtain ⟨X2, _, _⟩ := X1.fr f1
    have lp := gap28 N X2.1.1 V z1 z2 1001 (-500) 0 (N - 1002) (by omega) (by omega) (by omega)
    rw [show 1001 + (N - 1002 + 1) = N by omega] at lp
    refine X.x (c1.trans f1.c) X2 ?_ (k1.trans (code_a h m 0))
    unfold f_M_gap
    rw [pI_at X.1.1, cv_at M1, e1, cl_s, if_neg (by decide), show (-500 : Int32) = iI (-500) by decide]
    exact lp
  · rw [if_neg q, if_neg q]
    refine X.failX ?_
    unfold f_M_gap
    rw [pI_at X.1.1, cv_at M1, laysBoth_n N X1 hc hd q, cl_s, if_pos rfl, cv_at M1, failM N X1, cl_s]
    rfl
theorem leads43 (N : Nat) (M : MO A m h) (V : VJ A h Z Y) (hZ : zInv Z) (hY : zInv Y) {w : Int} (hw : 0 ≤ w ∧ w ≤ 1) : ∀ (q k : Nat) (fuel : Nat), k + q = 1001 → f_M_leads_43 N (q + (fuel + 1)) h m (iI w) (iI (zLd Z Y k (501 - k)).1) (iI (zLd Z Y k (501 - k)).2) (iI (500 - k)) = some (iI (if w = 0 then (zLd Z Y 1001 (-500)).1 else (zLd Z Y 1001 (-500)).2), h) := by
  intro q
  induction q with
  | zero =>
    intro k fuel hk
    have e : k = 1001 := by omega
    subst e
    rw [Nat.zero_add]
    unfold f_M_leads_43 f_M_leads_104
    rw [if_pos (show iI (500 - ((1001 : Nat) : Int)) < (-500 : Int32) by decide), show (501 : Int) - ((1001 : Nat) : Int) = -500 by omega]
    by_cases w0 : w = 0
    · rw [if_pos (show iI w = (0 : Int32) by rw [w0]; rfl), if_pos w0]
    · rw [if_neg (show ¬ iI w = (0 : Int32) from fun z => w0 ((iI_eq (b := 0) (by omega) (by omega)).mp z)), if_neg w0]
  | succ q ih =>
    intro k fuel hk
    have b1 := hZ.val2 (x := 500 - (k : Int)) (by omega) (by omega)
    have b2 := hY.val2 (x := 500 - (k : Int)) (by omega) (by omega)
    have ex : (501 : Int) - ((k + 1 : Nat) : Int) = 500 - (k : Int) := by omega
    have zl : zLd Z Y (k + 1) (500 - (k : Int)) = if zVal Z (500 - (k : Int)) < zVal Y (500 - (k : Int)) then ((zLd Z Y k (501 - k)).1 + 1, 500 - (k : Int)) else zLd Z Y k (501 - k) := by
      rw [zLd, show (500 : Int) - (k : Int) + 1 = 501 - k by omega]
    have i1 := ih (k + 1) fuel (by omega)
    rw [ex, zl] at i1
    rw [show q + 1 + (fuel + 1) = (q + (fuel + 1)) + 1 by omega]
    conv => lhs; unfold f_M_leads_43
    unfold f_M_leads_87
    have em : iI (500 - (k : Int)) + (-1 : Int32) = iI (500 - ((k + 1 : Nat) : Int)) := by rw [show (-1 : Int32) = iI (-1) by decide, iI_add, show (500 : Int) - (k : Int) + (-1) = 500 - ((k + 1 : Nat) : Int) by omega]
    rw [if_neg (show ¬ iI (500 - (k : Int)) < (-500 : Int32) from fun z => by have := (iI_lt (b := -500) (by omega) (by omega)).mp (show iI (500 - (k : Int)) < iI (-500) from by rw [show iI (-500) = (-500 : Int32) by decide]; exact z); omega), gR_at M (i := 36) (k := 51) (n := 2001) (by decide), show (1000 : Int32) + iI (500 - (k : Int)) = iI (1000 + (500 - (k : Int))) by rw [show (1000 : Int32) = iI 1000 from rfl, iI_add], V.at36 M (by omega), gR_at M (i := 37) (k := 51) (n := 2001) (by decide), V.at37 M (by omega)]
    have lg := lg_lt0 (a := zVal Z (500 - (k : Int))) (b := zVal Y (500 - (k : Int))) (by omega) (by omega)
    by_cases z : zVal Z (500 - (k : Int)) < zVal Y (500 - (k : Int))
    · rw [if_pos z] at i1
      rw [if_pos (lg.mpr z), bn_i, bn_i, em, show iI (zLd Z Y k (501 - (k : Int))).1 + (1 : Int32) = iI ((zLd Z Y k (501 - (k : Int))).1 + 1) by rw [show (1 : Int32) = iI 1 from rfl, iI_add]]
      exact i1
    · rw [if_neg z] at i1
      rw [if_neg (fun y => z (lg.mp y)), bn_i, em]
      exact i1
theorem leads_M (N : Nat) (hN : 30000 ≤ N) (X : RM ρ A m h F) {c d w : Int} (hc : i32 c) (hd : i32 d) (hw : i32 w) : RX ρ A m h (if ((0 ≤ c ∧ c ≤ 3) ∧ (0 ≤ d ∧ d ≤ 3)) ∧ (0 ≤ w ∧ w ≤ 1) then iI (if w = 0 then (zLd (zC F.1.1 c.toNat) (zC F.1.1 d.toNat) 1001 (-500)).1 else (zLd (zC F.1.1 c.toNat) (zC F.1.1 d.toNat) 1001 (-500)).2) else 0) F (if ((0 ≤ c ∧ c ≤ 3) ∧ (0 ≤ d ∧ d ≤ 3)) ∧ (0 ≤ w ∧ w ≤ 1) then 0 else 1) (f_M_leads N h m (iI c) (iI d) (iI w)) := by
  obtain ⟨X1, c1⟩ := X.code 0
  have M1 := X1.1.1
  have hin := inI N (s_i h m 1 0) hw (lo := 0) (hi := 1) (by omega) (by omega)
  have e24 : f_M_leads_24 N (s_i h m 1 0) m = some (0, s_i (s_i h m 1 0) m 1 1) := by unfold f_M_leads_24; rw [cv_at M1, failM N X1, cl_s]
  have st : f_M_leads N h m (iI c) (iI d) (iI w) = (if (if 0 ≤ w ∧ w ≤ 1 then (1 : Int32) else 0) = (0 : Int32) then (f_M_leads_24 N (s_i h m 1 0) m) else (cl (f_M_laysBoth N (s_i h m 1 0) m (iI c) (iI d)) fun v4 h5 => if v4 = (0 : Int32) then (f_M_leads_24 N h5 m) else (f_M_leads_43 N N h5 m (iI w) (0 : Int32) (-10000000 : Int32) (500 : Int32)))) := by
    unfold f_M_leads
    rw [pI_at X.1.1, show (0 : Int64) = lI 0 from rfl, show (1 : Int64) = lI 1 from rfl, hin, cl_s, cv_at M1]
  by_cases qw : 0 ≤ w ∧ w ≤ 1
  · rw [if_neg (show ¬ (if 0 ≤ w ∧ w ≤ 1 then (1 : Int32) else 0) = 0 by rw [if_pos qw]; decide)] at st
    by_cases q : (0 ≤ c ∧ c ≤ 3) ∧ (0 ≤ d ∧ d ≤ 3)
    · have yy : ((0 ≤ c ∧ c ≤ 3) ∧ (0 ≤ d ∧ d ≤ 3)) ∧ (0 ≤ w ∧ w ≤ 1) := ⟨q, qw⟩
      rw [if_pos yy, if_pos yy]
      obtain ⟨g, e1, f1, k1, V, z1, z2⟩ := laysBoth_y N hN X1 q.1 q.2
      obtain ⟨X2, _, _⟩ := X1.fr f1
      have lp := leads43 N X2.1.1 V z1 z2 qw 1001 0 (N - 1002) (by omega)
      rw [show 1001 + (N - 1002 + 1) = N by omega] at lp
      refine X.x (c1.trans f1.c) X2 ?_ (k1.trans (code_a h m 0))
      rw [st, e1, cl_s, if_neg (by decide), show (-10000000 : Int32) = iI (-10000000) by decide]
      exact lp
    · have nn' : ¬ (((0 ≤ c ∧ c ≤ 3) ∧ (0 ≤ d ∧ d ≤ 3)) ∧ (0 ≤ w ∧ w ≤ 1)) := fun z => q z.1
      rw [if_neg nn', if_neg nn']
      refine X.failX ?_
      rw [st, laysBoth_n N X1 hc hd q, cl_s, if_pos rfl, e24]
  · have nn' : ¬ (((0 ≤ c ∧ c ≤ 3) ∧ (0 ≤ d ∧ d ≤ 3)) ∧ (0 ≤ w ∧ w ≤ 1)) := fun z => qw z.2
    rw [if_neg nn', if_neg nn']
    refine X.failX ?_
    rw [st, if_pos (show (if 0 ≤ w ∧ w ≤ 1 then (1 : Int32) else 0) = 0 by rw [if_neg qw]), e24]
theorem meet22 (N : Nat) (M : MO A m h) (V : VJ A h Z Y) (hZ : zInv Z) (hY : zInv Y) : ∀ (q k : Nat) (fuel : Nat), k + q = 1001 → (∀ x : Int, -(k : Int) < x → x < k → zVal Z x ≠ zVal Y x) → ∃ r : Int, zMt Z Y (-1000) 1000 r ∧ f_M_meet_22 N (q + (fuel + 1)) h m (iI k) = some (iI r, h) := by
  intro q
  induction q with
  | zero =>
    intro k fuel hk hx
    have e : k = 1001 := by omega
    subst e
    refine ⟨-10000000, Or.inl ⟨rfl, fun x h1 h2 => hx x (by omega) (by omega)⟩, ?_⟩
    rw [Nat.zero_add]
    unfold f_M_meet_22
    rw [if_pos (show (1000 : Int32) < iI ((1001 : Nat) : Int) by decide), show (-10000000 : Int32) = iI (-10000000) by decide]
  | succ q ih =>
    intro k fuel hk hx
    have b1 := hZ.val2 (x := -(k : Int)) (by omega) (by omega)
    have b2 := hY.val2 (x := -(k : Int)) (by omega) (by omega)
    have b3 := hZ.val2 (x := (k : Int)) (by omega) (by omega)
    have b4 := hY.val2 (x := (k : Int)) (by omega) (by omega)
    have eq0 : ∀ x : Int, (0 ≤ zVal Z x ∧ zVal Z x ≤ 220000000) → (0 ≤ zVal Y x ∧ zVal Y x ≤ 220000000) → (lg_cmp (lI (zVal Z x)) (lI (zVal Y x)) = 0 ↔ zVal Z x = zVal Y x) := fun x h1 h2 => by
      rw [lg_eq0]
      exact ⟨fun z => by
        have e1 := lI_toInt (z := zVal Z x) (by omega) (by omega)
        have e2 := lI_toInt (z := zVal Y x) (by omega) (by omega)
        rw [z, e2] at e1
        exact e1.symm, fun z => by rw [z]⟩
    have st : f_M_meet_22 N ((q + (fuel + 1)) + 1) h m (iI k) = if zVal Z (-(k : Int)) = zVal Y (-(k : Int)) then some (iI (-(k : Int)), h) else (if zVal Z (k : Int) = zVal Y (k : Int) then some (iI (k : Int), h) else f_M_meet_22 N (q + (fuel + 1)) h m (iI ((k + 1 : Nat) : Int))) := by
      conv => lhs; unfold f_M_meet_22
      rw [if_neg (show ¬ (1000 : Int32) < iI (k : Int) from fun z => by have := (iI_lt (a := 1000) (by omega) (by omega)).mp z; omega), gR_at M (i := 36) (k := 51) (n := 2001) (by decide), show (1000 : Int32) - iI (k : Int) = iI (1000 + -(k : Int)) by rw [show (1000 : Int32) = iI 1000 from rfl, iI_sub, show (1000 : Int) - (k : Int) = 1000 + -(k : Int) by omega], V.at36 M (by omega), gR_at M (i := 37) (k := 51) (n := 2001) (by decide), V.at37 M (by omega), gR_at M (i := 36) (k := 51) (n := 2001) (by decide), show (1000 : Int32) + iI (k : Int) = iI (1000 + (k : Int)) by rw [show (1000 : Int32) = iI 1000 from rfl, iI_add], V.at36 M (by omega), gR_at M (i := 37) (k := 51) (n := 2001) (by decide), V.at37 M (by omega), bn_i, show iI (k : Int) + (1 : Int32) = iI ((k + 1 : Nat) : Int) by rw [show (1 : Int32) = iI 1 from rfl, iI_add]; rfl, iI_neg]
      by_cases z1 : zVal Z (-(k : Int)) = zVal Y (-(k : Int))
      · rw [if_pos ((eq0 _ b1 b2).mpr z1), if_pos z1]
      · rw [if_neg (fun y => z1 ((eq0 _ b1 b2).mp y)), if_neg z1]
        by_cases z2 : zVal Z (k : Int) = zVal Y (k : Int)
        · rw [if_pos ((eq0 _ b3 b4).mpr z2), if_pos z2]
        · rw [if_neg (fun y => z2 ((eq0 _ b3 b4).mp y)), if_neg z2]
    rw [show q + 1 + (fuel + 1) = (q + (fuel + 1)) + 1 by omega, st]
    have far : ∀ x : Int, zVal Z x = zVal Y x → x ≤ -(k : Int) ∨ (k : Int) ≤ x := fun x e => by
      by_cases y : -(k : Int) < x ∧ x < k
      · exact absurd e (hx x y.1 y.2)
      · omega
    by_cases z1 : zVal Z (-(k : Int)) = zVal Y (-(k : Int))
    · rw [if_pos z1]
      refine ⟨-(k : Int), Or.inr ⟨by omega, z1, fun x h1 h2 e => ?_⟩, rfl⟩
      have := far x e
      split <;> split <;> omega
    · rw [if_neg z1]
      by_cases z2 : zVal Z (k : Int) = zVal Y (k : Int)
      · rw [if_pos z2]
        refine ⟨(k : Int), Or.inr ⟨by omega, z2, fun x h1 h2 e => ?_⟩, rfl⟩
        have f1 := far x e
        have f2 : x ≠ -(k : Int) := fun y => z1 (by rw [← y]; exact e)
        split <;> split <;> omega
      · rw [if_neg z2]
        refine ih (k + 1) fuel (by omega) (fun x h1 h2 e => ?_)
        have f1 := far x e
        have f2 : x ≠ -(k : Int) := fun y => z1 (by rw [← y]; exact e)
        have f3 : x ≠ (k : Int) := fun y => z2 (by rw [← y]; exact e)
        omega
theorem meet_M (N : Nat) (hN : 30000 ≤ N) (X : RM ρ A m h F) {c d : Int} (hc : i32 c) (hd : i32 d) : (¬ ((0 ≤ c ∧ c ≤ 3) ∧ (0 ≤ d ∧ d ≤ 3)) → RX ρ A m h (0 : Int32) F 1 (f_M_meet N h m (iI c) (iI d))) ∧ (((0 ≤ c ∧ c ≤ 3) ∧ (0 ≤ d ∧ d ≤ 3)) → ∃ r : Int, zMt (zC F.1.1 c.toNat) (zC F.1.1 d.toNat) (-1000) 1000 r ∧ RX ρ A m h (iI r) F 0 (f_M_meet N h m (iI c) (iI d))) := by
  obtain ⟨X1, c1⟩ := X.code 0
  have M1 := X1.1.1
  constructor
  · intro q
    refine X.failX ?_
    unfold f_M_meet
    rw [pI_at X.1.1, cv_at M1, laysBoth_n N X1 hc hd q, cl_s, if_pos rfl, cv_at M1, failM N X1, cl_s]
  · intro q
    obtain ⟨g, e1, f1, k1, V, z1, z2⟩ := laysBoth_y N hN X1 q.1 q.2
    obtain ⟨X2, _, _⟩ := X1.fr f1
    obtain ⟨r, r1, lp⟩ := meet22 N X2.1.1 V z1 z2 1001 0 (N - 1002) (by omega) (fun x h1 h2 => by omega)
    rw [show 1001 + (N - 1002 + 1) = N by omega] at lp
    refine ⟨r, r1, X.x (c1.trans f1.c) X2 ?_ (k1.trans (code_a h m 0))⟩
    unfold f_M_meet
    rw [pI_at X.1.1, cv_at M1, e1, cl_s, if_neg (by decide)]
    exact lp
end
