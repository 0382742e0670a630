/-! parts: what falls goes down, what rises goes up -/
/-- of the weight at place j what belongs to the falling part -/
def zBel (Z : Nat → Int) (j : Nat) : Int := min (Z (2 + j)) (max 0 (-zS Z j))
def pfall (Z : Nat → Int) (dn : Int) (j : Nat) : Int × Int := ((j : Int) - 5000 - dn, zBel Z j)
def prise (Z : Nat → Int) (up : Int) (j : Nat) : Int × Int := ((j : Int) - 5000 + up, Z (2 + j) - zBel Z j)
def plist (Z : Nat → Int) (dn up : Int) (fa ri : Bool) : Nat → Nat → List (Int × Int)
  | 0, _ => []
  | q + 1, j => (if fa then [pfall Z dn j] else []) ++ ((if ri then [prise Z up j] else []) ++ plist Z dn up fa ri q (j + 1))
theorem aGs_app (A : Nat → Nat) (m : Nat) : ∀ (L K : List (Int × Int)) (G : Nat → Nat → Int32), aGs A m (L ++ K) G = aGs A m K (aGs A m L G) := by
  intro L
  induction L with
  | nil => intro K G; rfl
  | cons e L ih => intro K G; rw [List.cons_append, aGs, aGs, ih]
def bI (b : Bool) : Int32 := if b then 1 else 0
/-- the value at the least place behind it -/
def zPv (Z : Nat → Int) (dn : Int) (fa : Bool) (low from_ : Int) : Int := if fa = false ∨ from_ = -100000000 ∨ from_ - dn ≤ -5000 then low else zVal Z (-5000 + dn)
theorem parts_end (N : Nat) (hN : 10002 ≤ N) {A : Nat → Nat} {m : Nat} {h : hS} (M : MO A m h) {dn : Int} (hd : 0 ≤ dn ∧ dn ≤ 1000) (G : Nat → Nat → Int32) (low : Int) (lv : Bool) : f_M_parts_199 N (w_i h G) m (iI dn) (lI low) (bI lv) = some ((), w_i h (va_up G (A 4) (upd (G (A 4)) 1 (iI (if lv then low else zVal (zi (G (A 6))) (-5000 + dn)))))) := by
  have m4 : (4, 50, 10003) ∈ mrows := by decide
  have m6 : (6, 50, 10003) ∈ mrows := by decide
  unfold f_M_parts_199 f_M_parts_230
  rw [gR_at (M.wi G) m4]
  cases lv with
  | true =>
    rw [if_neg (show ¬ bI true = 0 by decide), uI_1 ((M.wi _).ro m4) (by omega) (by omega), lI_i, s_i_wi, if_pos rfl]
  | false =>
    rw [if_pos (show bI false = 0 by decide), gR_at (M.wi G) m6]
    simp only [nn]
    rw [show (-5000 : Int32) = iI (-5000) from rfl, iI_add, valueAt_is N hN ((M.wi _).ro m6) (by omega) (by omega), h_i_wi]
    simp only [cl]
    rw [uI_1 ((M.wi _).ro m4) (by omega) (by omega), lI_i, s_i_wi, if_neg (by decide)]
theorem parts_2 (N : Nat) (hN : 10002 ≤ N) {A : Nat → Nat} {m : Nat} {h : hS} (M : MO A m h) {dn up : Int} (hd : 0 ≤ dn ∧ dn ≤ 1000) (hu : 0 ≤ up ∧ up ≤ 1000) (fa ri : Bool) (low from_ : Int) (hfr : -100000000 ≤ from_ ∧ from_ ≤ 100000000) (O : Nat → Int32) (hO : sb (zi O)) (hw : ∀ k, 2 ≤ k → k < 10003 → 0 ≤ zi O k ∧ zi O k ≤ 1000000) :
    ∀ (q n j : Nat) (G : Nat → Nat → Int32), G (A 6) = O → j + q = 10001 → q < n → f_M_parts_87 N n (w_i h G) m (iI dn) (iI up) (bI fa) (bI ri) (lI low) (iI from_) (iI (zS (zi O) j)) (iI j) = some ((), w_i h (va_up (aGs A m (plist (zi O) dn up fa ri q j) G) (A 4) (upd (aGs A m (plist (zi O) dn up fa ri q j) G (A 4)) 1 (iI (zPv (zi O) dn fa low from_))))) := by
  have m4 : (4, 50, 10003) ∈ mrows := by decide
  have m6 : (6, 50, 10003) ∈ mrows := by decide
  have n64 : A 6 ≠ A 4 := M.nn m6 m4 (by decide)
  have n6m : A 6 ≠ m := M.ne m6 (by decide)
  intro q
  induction q with
  | zero =>
    intro n j G hG hj hn
    obtain ⟨n, rfl⟩ : ∃ q, n = q + 1 := ⟨n - 1, by omega⟩
    have e1 := parts_end N hN M hd G low true
    have e0 := parts_end N hN M hd G low false
    rw [show bI true = 1 from rfl] at e1
    rw [show bI false = 0 from rfl, hG] at e0
    unfold f_M_parts_87 f_M_parts_194 zPv
    rw [if_pos (show (10001 : Int32) ≤ iI j from (iI_le (a := 10001) (by omega) (by omega)).mpr (by omega))]
    cases fa with
    | false =>
      rw [if_pos (show bI false = 0 by decide), e1, if_pos (Or.inl rfl), if_pos rfl]
      rfl
    | true =>
      rw [if_neg (show ¬ bI true = 0 by decide)]
      by_cases h1 : from_ = -100000000
      · rw [if_pos (show iI from_ = (-100000000 : Int32) by rw [h1]; rfl), e1, if_pos (Or.inr (Or.inl h1)), if_pos rfl]
        rfl
      · rw [if_neg (show ¬ iI from_ = (-100000000 : Int32) from fun q => h1 ((iI_eq (b := -100000000) (by omega) (by omega)).mp q)), iI_sub, show (-5000 : Int32) = iI (-5000) from rfl]
        by_cases h2 : from_ - dn ≤ -5000
        · rw [if_neg (fun q => absurd ((iI_lt (by omega) (by omega)).mp q) (by omega)), e1, if_pos (Or.inr (Or.inr h2)), if_pos rfl]
          rfl
        · rw [if_pos ((iI_lt (by omega) (by omega)).mpr (by omega)), e0, if_neg (show ¬ (false = true) by decide), if_neg (show ¬ (true = false ∨ from_ = -100000000 ∨ from_ - dn ≤ -5000) by simp [h1]; omega)]
          rfl
  | succ q ih =>
    intro n j G hG hj hn
    obtain ⟨n, rfl⟩ : ∃ q, n = q + 1 := ⟨n - 1, by omega⟩
    have hs := hO j (by omega)
    have hs1 := hO (j + 1) (by omega)
    have hwj := hw (2 + j) (by omega) (by omega)
    have hzw : zS (zi O) (j + 1) = zS (zi O) j + zi O (2 + j) := by rw [zS, zW, if_pos (by omega)]
    have hbel : 0 ≤ zBel (zi O) j ∧ zBel (zi O) j ≤ zi O (2 + j) := by unfold zBel; omega
    unfold f_M_parts_87
    rw [if_neg (show ¬ (10001 : Int32) ≤ iI j from fun q => absurd ((iI_le (a := 10001) (by omega) (by omega)).mp q) (by omega)), gR_at (M.wi G) m6, show (2 : Int32) = iI 2 from rfl, iI_add, aI_iI ((M.wi G).ro m6) (by omega) (by omega) (by omega), h_i_wi, hG, show ((2 : Int) + j).toNat = 2 + j by omega]
    have ew : O (2 + j) = iI (zi O (2 + j)) := (toInt_iI _).symm
    have eb : jmn (O (2 + j)) (jmx 0 (-iI (zS (zi O) j))) = iI (zBel (zi O) j) := by
      rw [ew, iI_neg, show (0 : Int32) = iI 0 from rfl, jmx_is (by omega) (by omega), jmn_is (by omega) (by omega)]
      rfl
    simp only [bn]
    rw [eb]
    -- the last of a turn, in any store
    have last : ∀ G1 : Nat → Nat → Int32, G1 (A 6) = O → f_M_parts_160 N (f_M_parts_87 N n) (w_i h G1) m (iI dn) (iI up) (bI fa) (bI ri) (lI low) (iI from_) (iI (zS (zi O) j)) (iI j) (O (2 + j)) = some ((), w_i h (va_up (aGs A m (plist (zi O) dn up fa ri q (j + 1)) G1) (A 4) (upd (aGs A m (plist (zi O) dn up fa ri q (j + 1)) G1 (A 4)) 1 (iI (zPv (zi O) dn fa low from_))))) := by
      intro G1 h1
      unfold f_M_parts_160
      simp only [bn]
      rw [ew, iI_add, ← hzw, show (1 : Int32) = iI 1 from rfl, iI_add, show (j : Int) + 1 = ((j + 1 : Nat) : Int) by omega]
      exact ih n (j + 1) G1 h1 (by omega) (by omega)
    have second : ∀ G1 : Nat → Nat → Int32, G1 (A 6) = O → f_M_parts_138 N (f_M_parts_87 N n) (w_i h G1) m (iI dn) (iI up) (bI fa) (bI ri) (lI low) (iI from_) (iI (zS (zi O) j)) (iI j) (O (2 + j)) (iI (zBel (zi O) j)) = some ((), w_i h (va_up (aGs A m ((if ri then [prise (zi O) up j] else []) ++ plist (zi O) dn up fa ri q (j + 1)) G1) (A 4) (upd (aGs A m ((if ri then [prise (zi O) up j] else []) ++ plist (zi O) dn up fa ri q (j + 1)) G1 (A 4)) 1 (iI (zPv (zi O) dn fa low from_))))) := by
      intro G1 h1
      unfold f_M_parts_138
      cases hri : ri with
      | false =>
        rw [if_pos (show bI false = 0 by decide), ← hri, last G1 h1, hri]
        rfl
      | true =>
        rw [if_neg (show ¬ bI true = 0 by decide), cv_at (M.wi G1), show (5000 : Int32) = iI 5000 from rfl, iI_sub, iI_add, show O (2 + j) - iI (zBel (zi O) j) = iI (zi O (2 + j) - zBel (zi O) j) by rw [ew, iI_sub], adds_is N M G1 (by omega) (by omega)]
        simp only [cl]
        rw [← hri, last _ (by rw [aG_o n64 n6m]; exact h1), hri]
        rfl
    cases hfa : fa with
    | false =>
      rw [if_pos (show bI false = 0 by decide), ← hfa, second G hG, plist, hfa]
      rfl
    | true =>
      rw [if_neg (show ¬ bI true = 0 by decide), cv_at (M.wi G), show (5000 : Int32) = iI 5000 from rfl, iI_sub, iI_sub, adds_is N M G (by omega) (by omega)]
      simp only [cl]
      rw [← hfa, second _ (by rw [aG_o n64 n6m]; exact hG), plist, hfa]
      rfl
theorem zSum_app (L K : List (Int × Int)) : zSum (L ++ K) = zSum L + zSum K := by
  induction L with
  | nil => simp [zSum]
  | cons e L ih => simp only [List.cons_append, zSum, ih]; omega
theorem zBel_rng {Z : Nat → Int} {j : Nat} (h : 0 ≤ Z (2 + j)) : 0 ≤ zBel Z j ∧ zBel Z j ≤ Z (2 + j) := by unfold zBel; omega
theorem plist_nonneg {Z : Nat → Int} {dn up : Int} {fa ri : Bool} (hZ : ∀ k, 2 ≤ k → k < 10003 → 0 ≤ Z k) : ∀ (q s : Nat), s + q = 10001 → ∀ e ∈ plist Z dn up fa ri q s, 0 ≤ e.2 := by
  intro q
  induction q with
  | zero => intro s _ e he; simp [plist] at he
  | succ q ih =>
    intro s hs e he
    have hb := zBel_rng (j := s) (hZ (2 + s) (by omega) (by omega))
    rw [plist] at he
    rcases List.mem_append.mp he with h | h
    · cases fa <;> simp at h
      rw [h]; exact hb.1
    · rcases List.mem_append.mp h with h | h
      · cases ri <;> simp at h
        rw [h]; show 0 ≤ Z (2 + s) - zBel Z s; omega
      · exact ih (s + 1) (by omega) e h
theorem plist_sum {Z : Nat → Int} {dn up : Int} {fa ri : Bool} (hZ : ∀ k, 2 ≤ k → k < 10003 → 0 ≤ Z k) : ∀ (q s : Nat), s + q = 10001 → zSum (plist Z dn up fa ri q s) ≤ zSum (dlist Z 0 q s) := by
  intro q
  induction q with
  | zero => intro s _; simp [plist, dlist, zSum]
  | succ q ih =>
    intro s hs
    have hb := zBel_rng (j := s) (hZ (2 + s) (by omega) (by omega))
    have := ih (s + 1) (by omega)
    rw [plist, dlist, zSum_app, zSum_app, zSum]
    cases fa <;> cases ri <;> simp [zSum, pfall, prise] <;> omega
theorem plist_congr {Z Y : Nat → Int} {dn up : Int} {fa ri : Bool} (h : ∀ k, k < 10003 → Z k = Y k) : ∀ (q s : Nat), s + q = 10001 → plist Z dn up fa ri q s = plist Y dn up fa ri q s := by
  intro q
  induction q with
  | zero => intro s _; rfl
  | succ q ih =>
    intro s hs
    have e1 : zBel Z s = zBel Y s := by unfold zBel; rw [h _ (by omega), zS_congr h]
    rw [plist, plist, ih (s + 1) (by omega)]
    unfold pfall prise
    rw [e1, h (2 + s) (by omega)]
theorem uI_0 {β : Type} {h : hS} {a n : Nat} {v : Int32} {f : hS → Option β} (hr : ro h a n) (hj : 0 < n) (hn : n < 2 ^ 31) : uI h (some a) (0 : Int32) v f = f (s_i h a 0 v) := uI_iI (z := 0) hr (by omega) (by omega) hn
theorem aI_0 {β : Type} {h : hS} {a n : Nat} {f : Int32 → Option β} (hr : ro h a n) (hj : 0 < n) (hn : n < 2 ^ 31) : aI h 50 (some a) (0 : Int32) f = f (h_i h a 0) := aI_iI (z := 0) hr (by omega) (by omega) hn
/-- the store behind parts: the places' weights one after another, then the value at the least place -/
def pG (A : Nat → Nat) (m : Nat) (L : List (Int × Int)) (v : Int) (G : Nat → Nat → Int32) : Nat → Nat → Int32 := va_up (aGs A m L G) (A 4) (upd (aGs A m L G (A 4)) 1 (iI v))
theorem parts_1 (N : Nat) (hN : 10002 ≤ N) {A : Nat → Nat} {m : Nat} {h : hS} (M : MO A m h) {dn up : Int} (hd : 0 ≤ dn ∧ dn ≤ 1000) (hu : 0 ≤ up ∧ up ≤ 1000) (fa ri : Bool) (low from_ : Int) (hfr : -100000000 ≤ from_ ∧ from_ ≤ 100000000) (O F : Nat → Int32) (hO : sb (zi O)) (hw : ∀ k, 2 ≤ k → k < 10003 → 0 ≤ zi O k ∧ zi O k ≤ 1000000) (G : Nat → Nat → Int32) (hG : G (A 6) = O) :
    ∀ (q n j : Nat), j + q = 10001 → q < n → f_M_parts_32 N n (w_i h (va_up G (A 4) (zer F j))) m (iI dn) (iI up) (bI fa) (bI ri) (lI low) (iI from_) (iI j) = some ((), w_i h (pG A m (plist (zi O) dn up fa ri 10001 0) (zPv (zi O) dn fa low from_) (va_up G (A 4) (upd (zer F 10001) 0 (if fa then O 0 else 0))))) := by
  have m4 : (4, 50, 10003) ∈ mrows := by decide
  have m6 : (6, 50, 10003) ∈ mrows := by decide
  have n64 : A 6 ≠ A 4 := M.nn m6 m4 (by decide)
  intro q
  induction q with
  | zero =>
    intro n j hj hn
    obtain ⟨n, rfl⟩ : ∃ q, n = q + 1 := ⟨n - 1, by omega⟩
    have rest : ∀ v : Int32, v = (if fa then O 0 else 0) → f_M_parts_75 N (w_i h (va_up G (A 4) (zer F j))) m (iI dn) (iI up) (bI fa) (bI ri) (lI low) (iI from_) (some (A 4)) 0 v = some ((), w_i h (pG A m (plist (zi O) dn up fa ri 10001 0) (zPv (zi O) dn fa low from_) (va_up G (A 4) (upd (zer F 10001) 0 (if fa then O 0 else 0))))) := by
      intro v hv
      unfold f_M_parts_75
      rw [uI_0 ((M.wi _).ro m4) (by omega) (by omega), s_i_wi, zu_up, gR_at (M.wi _) m6, aI_0 ((M.wi _).ro m6) (by omega) (by omega), h_i_wi, show va_up G (A 4) (zer F j) (A 4) = zer F j by simp [va_up], show j = 10001 by omega, hv]
      have e6 : ∀ T, va_up G (A 4) T (A 6) = O := fun T => by simp [va_up, n64, hG]
      rw [e6, show O 0 = iI (zS (zi O) 0) from (toInt_iI _).symm]
      have := parts_2 N hN M hd hu fa ri low from_ hfr O hO hw 10001 N 0 (va_up G (A 4) (upd (zer F 10001) 0 (if fa then iI (zS (zi O) 0) else 0))) (e6 _) (by omega) (by omega)
      rw [show iI ((0 : Nat) : Int) = (0 : Int32) from rfl] at this
      exact this
    unfold f_M_parts_32
    rw [if_pos (show (10001 : Int32) ≤ iI j from (iI_le (a := 10001) (by omega) (by omega)).mpr (by omega)), gR_at (M.wi _) m4]
    cases fa with
    | false => rw [if_pos (show bI false = 0 by decide)]; exact rest 0 rfl
    | true =>
      rw [if_neg (show ¬ bI true = 0 by decide), gR_at (M.wi _) m6, aI_0 ((M.wi _).ro m6) (by omega) (by omega)]
      exact rest _ (by rw [h_i_wi, if_pos rfl]; simp [va_up, n64, hG])
  | succ q ih =>
    intro n j hj hn
    obtain ⟨n, rfl⟩ : ∃ q, n = q + 1 := ⟨n - 1, by omega⟩
    unfold f_M_parts_32
    rw [if_neg (show ¬ (10001 : Int32) ≤ iI j from fun q => absurd ((iI_le (a := 10001) (by omega) (by omega)).mp q) (by omega)), gR_at (M.wi _) m4, show (2 : Int32) = iI 2 from rfl, iI_add, uI_iI ((M.wi _).ro m4) (by omega) (by omega) (by omega), s_i_wi, zu_up]
    simp only [bn]
    rw [show va_up G (A 4) (zer F j) (A 4) = zer F j by simp [va_up], show ((2 : Int) + j).toNat = 2 + j by omega, zer_upd, show (1 : Int32) = iI 1 from rfl, iI_add, show (j : Int) + 1 = ((j + 1 : Nat) : Int) by omega]
    exact ih n (j + 1) (by omega) (by omega)
