/-! the KINKS of a table as a list; kinks, kink, flat, slope -/
def kf (e : Int × Int) : Bool := decide (e.2 ≠ 0)
/-- the KINKS, from the left -/
def zK (Z : Nat → Int) : List (Int × Int) := (zL Z).filter kf
theorem zF_K (φ : Int → Int) (L : List (Int × Int)) : zF φ (L.filter kf) = zF φ L := by
  induction L with
  | nil => rfl
  | cons e L ih =>
    by_cases h : e.2 = 0
    · rw [List.filter_cons_of_neg (by simp [kf, h]), ih, zF, h, Int.zero_mul]; omega
    · rw [List.filter_cons_of_pos (by simp [kf, h]), zF, zF, ih]
theorem kinks_loop (N : Nat) {h : hS} {a : Nat} (hr : ro h a 10003) (hn : zNn (zi (h_i h a))) : ∀ (q n j : Nat) (acc : Int), j + q = 10001 → q < n → f_M_kinks_4 N n h a (iI acc) (iI j) = some (iI (acc + ((dlist (zi (h_i h a)) 0 q j).filter kf).length), h) := by
  intro q
  induction q with
  | zero =>
    intro n j acc hj hnn
    obtain ⟨n, rfl⟩ : ∃ q, n = q + 1 := ⟨n - 1, by omega⟩
    unfold f_M_kinks_4
    rw [if_pos (show (10001 : Int32) ≤ iI j from (iI_le (a := 10001) (by omega) (by omega)).mpr (by omega))]
    simp [dlist]
  | succ q ih =>
    intro n j acc hj hnn
    obtain ⟨n, rfl⟩ : ∃ q, n = q + 1 := ⟨n - 1, by omega⟩
    have w := hn (2 + j) (by omega) (by omega)
    have ew : h_i h a (2 + j) = iI (zi (h_i h a) (2 + j)) := (toInt_iI _).symm
    have wr := i_rng (h_i h a (2 + j))
    have wz : zi (h_i h a) (2 + j) = (h_i h a (2 + j)).toInt := rfl
    unfold f_M_kinks_4
    rw [if_neg (show ¬ (10001 : Int32) ≤ iI j from fun q => absurd ((iI_le (a := 10001) (by omega) (by omega)).mp q) (by omega)), show (2 : Int32) = iI 2 from rfl, iI_add, aI_iI hr (by omega) (by omega) (by omega), show ((2 : Int) + j).toNat = 2 + j by omega, ew]
    unfold f_M_kinks_25
    simp only [bn]
    rw [show (1 : Int32) = iI 1 from rfl, iI_add (j : Int) 1, iI_add acc 1, show (j : Int) + 1 = ((j + 1 : Nat) : Int) by omega, dlist]
    by_cases c : zi (h_i h a) (2 + j) = 0
    · rw [if_pos (show iI (zi (h_i h a) (2 + j)) ≤ (0 : Int32) from (iI_le (b := 0) (by omega) (by omega)).mpr (by omega)), List.filter_cons_of_neg (by simp [kf, c]), show (0 : Int32) = iI 0 from rfl, iI_add, show acc + 0 = acc by omega]
      exact ih n (j + 1) acc (by omega) (by omega)
    · rw [if_neg (show ¬ iI (zi (h_i h a) (2 + j)) ≤ (0 : Int32) from fun q => absurd ((iI_le (b := 0) (by omega) (by omega)).mp q) (by omega)), List.filter_cons_of_pos (by simp [kf, c]), List.length_cons, ih n (j + 1) (acc + 1) (by omega) (by omega)]
      congr 3
      omega
theorem kinks_is (N : Nat) (hN : 10002 ≤ N) {h : hS} {a : Nat} (hr : ro h a 10003) (hn : zNn (zi (h_i h a))) : f_M_kinks N h a = some (iI (zK (zi (h_i h a))).length, h) := by
  have := kinks_loop N hr hn 10001 N 0 0 (by omega) (by omega)
  rw [show (0 : Int) + (((dlist (zi (h_i h a)) 0 10001 0).filter kf).length : Int) = ((zK (zi (h_i h a))).length : Int) by unfold zK zL; omega] at this
  exact this
theorem zK_congr {Z Y : Nat → Int} (h : tEq Z Y) : zK Z = zK Y := by
  unfold zK
  rw [zL_congr (fun k _ h2 => h k h2)]
theorem kink_loop (N : Nat) {A : Nat → Nat} {m : Nat} {h : hS} (M : MO A m h) (hn : zNn (zi (h_i h (A 4)))) {what : Int} (hw : 0 ≤ what ∧ what ≤ 1) : ∀ (q n j i : Nat), j + q = 10001 → q < n → i ≤ 2147483647 → f_M_kink_44 N n h m (iI what) (iI i) (iI j) = match ((dlist (zi (h_i h (A 4))) 0 q j).filter kf)[i]? with
    | none => cl (f_M_fail N h m 1) fun v g => some (v, g)
    | some e => some (iI (if what = 0 then e.1 else e.2), h) := by
  have m4 : (4, 50, 10003) ∈ mrows := by decide
  intro q
  induction q with
  | zero =>
    intro n j i hj hnn hi
    obtain ⟨n, rfl⟩ : ∃ q, n = q + 1 := ⟨n - 1, by omega⟩
    unfold f_M_kink_44
    rw [if_pos (show (10001 : Int32) ≤ iI j from (iI_le (a := 10001) (by omega) (by omega)).mpr (by omega)), cv_at M]
    rfl
  | succ q ih =>
    intro n j i hj hnn hi
    obtain ⟨n, rfl⟩ : ∃ q, n = q + 1 := ⟨n - 1, by omega⟩
    have w := hn (2 + j) (by omega) (by omega)
    have ew : h_i h (A 4) (2 + j) = iI (zi (h_i h (A 4)) (2 + j)) := (toInt_iI _).symm
    have wr := i_rng (h_i h (A 4) (2 + j))
    have wz : zi (h_i h (A 4)) (2 + j) = (h_i h (A 4) (2 + j)).toInt := rfl
    unfold f_M_kink_44
    rw [if_neg (show ¬ (10001 : Int32) ≤ iI j from fun q => absurd ((iI_le (a := 10001) (by omega) (by omega)).mp q) (by omega)), gR_at M m4, gR_at M m4, show (2 : Int32) = iI 2 from rfl, iI_add, aI_iI (M.ro m4) (by omega) (by omega) (by omega), aI_iI (M.ro m4) (by omega) (by omega) (by omega), show ((2 : Int) + j).toNat = 2 + j by omega, ew]
    unfold f_M_kink_98 f_M_kink_94
    simp only [bn]
    rw [show (1 : Int32) = iI 1 from rfl, iI_add (j : Int) 1, show (j : Int) + 1 = ((j + 1 : Nat) : Int) by omega, dlist]
    by_cases c : zi (h_i h (A 4)) (2 + j) = 0
    · rw [if_pos (show iI (zi (h_i h (A 4)) (2 + j)) = (0 : Int32) from (iI_eq (b := 0) (by omega) (by omega)).mpr c), List.filter_cons_of_neg (by simp [kf, c])]
      exact ih n (j + 1) i (by omega) (by omega) hi
    · rw [if_neg (show ¬ iI (zi (h_i h (A 4)) (2 + j)) = (0 : Int32) from fun q => c ((iI_eq (b := 0) (by omega) (by omega)).mp q)), List.filter_cons_of_pos (by simp [kf, c])]
      cases i with
      | zero =>
        rw [if_pos (show iI ((0 : Nat) : Int) = (0 : Int32) from rfl), List.getElem?_cons_zero]
        by_cases w0 : what = 0
        · rw [if_pos (show iI what = (0 : Int32) by rw [w0]; rfl), show (5000 : Int32) = iI 5000 from rfl, iI_sub]
          simp only [w0, if_pos]
          rw [show (j : Int) - 5000 + 0 = (j : Int) - 5000 by omega]
        · rw [if_neg (show ¬ iI what = (0 : Int32) from fun q => w0 ((iI_eq (b := 0) (by omega) (by omega)).mp q))]
          simp only [w0, if_false]
      | succ i =>
        rw [if_neg (show ¬ iI ((i + 1 : Nat) : Int) = (0 : Int32) from fun q => absurd ((iI_eq (b := 0) (by omega) (by omega)).mp q) (by omega)), List.getElem?_cons_succ, iI_neg, iI_add, show ((i + 1 : Nat) : Int) + -1 = (i : Int) by omega]
        exact ih n (j + 1) i (by omega) (by omega) (by omega)
