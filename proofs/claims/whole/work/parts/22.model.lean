/-! THE REFERENCE'S OBJECT: its rows, by their fields; the ints of all cells as one store G -/
/-- field, kind of the row, its length -/
abbrev mrows : List (Nat × Nat × Nat) := [(0, 61, 9), (2, 50, 644), (3, 50, 3), (4, 50, 10003), (5, 50, 10003), (6, 50, 10003), (7, 60, 1000), (8, 53, 1000), (10, 50, 40), (11, 50, 40), (16, 50, 4), (17, 50, 600), (18, 50, 644), (19, 50, 40), (30, 50, 41), (31, 51, 10001), (34, 51, 10001), (36, 51, 2001), (37, 51, 2001), (42, 50, 25760), (44, 50, 8), (45, 51, 8), (46, 53, 41), (47, 51, 1681), (52, 50, 644), (53, 50, 25760), (54, 50, 8), (55, 50, 3), (56, 51, 8)]
def MO (A : Nat → Nat) (m : Nat) (h : hS) : Prop := h_k h m = 1 ∧ (∀ q ∈ mrows, h_r h m q.1 = some (A q.1) ∧ h_k h (A q.1) = q.2.1 ∧ h_n h (A q.1) = q.2.2) ∧ ∀ q ∈ mrows, ∀ q' ∈ mrows, A q.1 = A q'.1 → q.1 = q'.1
def w_i (h : hS) (G : Nat → Nat → Int32) : hS := (h.1, h.2.1, G, h.2.2.2)
theorem w_i_self (h : hS) : w_i h (h_i h) = h := rfl
theorem h_i_wi (h : hS) (G : Nat → Nat → Int32) : h_i (w_i h G) = G := rfl
theorem s_i_wi (h : hS) (G : Nat → Nat → Int32) (a k : Nat) (v : Int32) : s_i (w_i h G) a k v = w_i h (va_up G a (upd (G a) k v)) := rfl
theorem s_w_wi (h : hS) (G : Nat → Nat → Int32) (a : Nat) (T : Nat → Int32) : s_w (w_i h G) a T = w_i h (va_up G a T) := rfl
theorem MO.wi {A : Nat → Nat} {m : Nat} {h : hS} (M : MO A m h) (G : Nat → Nat → Int32) : MO A m (w_i h G) := M
theorem MO.ro {A : Nat → Nat} {m : Nat} {h : hS} (M : MO A m h) {i n : Nat} (hi : (i, 50, n) ∈ mrows) : ro h (A i) n := ⟨(M.2.1 _ hi).2.1, (M.2.1 _ hi).2.2⟩
theorem MO.ne {A : Nat → Nat} {m : Nat} {h : hS} (M : MO A m h) {i k n : Nat} (hi : (i, k, n) ∈ mrows) (hk : k ≠ 1) : A i ≠ m := fun q => hk (by
  have e := (M.2.1 _ hi).2.1
  rw [q] at e
  exact e.symm.trans M.1)
theorem MO.nn {A : Nat → Nat} {m : Nat} {h : hS} (M : MO A m h) {i k n j k' n' : Nat} (hi : (i, k, n) ∈ mrows) (hj : (j, k', n') ∈ mrows) (hij : i ≠ j) : A i ≠ A j := fun q => hij (M.2.2 _ hi _ hj q)
section
variable {β : Type} {A : Nat → Nat} {m : Nat} {h : hS}
theorem gR_at (M : MO A m h) {i k n : Nat} {f : Option Nat → Option β} (hi : (i, k, n) ∈ mrows) : gR h (some m) 0 i f = f (some (A i)) := by
  show (if h_k h m = 0 + 1 then f (h_r h m i) else none) = _
  rw [if_pos M.1, (M.2.1 _ hi).1]
theorem gI_at (M : MO A m h) {i : Nat} {f : Int32 → Option β} : gI h (some m) 0 i f = f (h_i h m i) := by
  show (if h_k h m = 0 + 1 then f (h_i h m i) else none) = _
  rw [if_pos M.1]
theorem pI_at (M : MO A m h) {i : Nat} {v : Int32} {f : hS → Option β} : pI h (some m) 0 i v f = f (s_i h m i v) := by
  show (if h_k h m = 0 + 1 then f (s_i h m i v) else none) = _
  rw [if_pos M.1]
theorem pZ_at (M : MO A m h) {i : Nat} {v : Int32} {f : hS → Option β} (hv : v = 0 ∨ v = 1) : pZ h (some m) 0 i v f = f (s_i h m i v) := by
  show (if h_k h m = 0 + 1 ∧ (v = 0 ∨ v = 1) then f (s_i h m i v) else none) = _
  rw [if_pos ⟨M.1, hv⟩]
theorem cv_at (M : MO A m h) {α : Type} {f : Nat → Option (α × hS)} {k : α → hS → Option β} : cv h (some m) 0 f k = cl (f m) k := by
  show (if h_k h m = 0 + 1 then cl (f m) k else none) = _
  rw [if_pos M.1]
theorem uI_iI {a n : Nat} {z : Int} {v : Int32} {f : hS → Option β} (hr : ro h a n) (h0 : 0 ≤ z) (hj : z < n) (hn : n < 2 ^ 31) : uI h (some a) (iI z) v f = f (s_i h a z.toNat v) := by
  rw [show iI z = nI z.toNat by rw [nI_iI]; congr 1; omega]
  exact uI_at hr (by omega) hn
end
theorem isIn_is (N : Nat) (h : hS) {v a b : Int} (hv : -9223372036854775808 ≤ v ∧ v ≤ 9223372036854775807) (ha : -9223372036854775808 ≤ a ∧ a ≤ 9223372036854775807) (hb : -9223372036854775808 ≤ b ∧ b ≤ 9223372036854775807) : f_M_isIn N h (lI v) (lI a) (lI b) = some (if a ≤ v ∧ v ≤ b then 1 else 0, h) := by
  unfold f_M_isIn f_M_isIn_17 f_M_isIn_18 bz
  by_cases h1 : v < a
  · rw [if_pos ((lg_lt0 hv ha).mpr h1), if_pos (Or.inl rfl), if_neg (show ¬ (a ≤ v ∧ v ≤ b) by omega)]
  · rw [if_neg (fun q => h1 ((lg_lt0 hv ha).mp q))]
    by_cases h2 : b < v
    · rw [if_pos ((lg_gt0 hv hb).mpr h2), if_pos (Or.inl rfl), if_neg (show ¬ (a ≤ v ∧ v ≤ b) by omega)]
    · rw [if_neg (fun q => h2 ((lg_gt0 hv hb).mp q)), if_pos (Or.inr rfl), if_pos (show a ≤ v ∧ v ≤ b by omega)]
/-- a weight comes to a place of the table, or the table is too narrow -/
def aG (A : Nat → Nat) (m : Nat) (G : Nat → Nat → Int32) (p w : Int) : Nat → Nat → Int32 :=
  if w = 0 then G else if -5000 ≤ p ∧ p ≤ 5000 then va_up G (A 4) (upd (G (A 4)) (5002 + p).toNat (G (A 4) (5002 + p).toNat + iI w)) else va_up G m (upd (G m) 9 1)
theorem adds_is (N : Nat) {A : Nat → Nat} {m : Nat} {h : hS} (M : MO A m h) (G : Nat → Nat → Int32) {p w : Int} (hp : -2000000000 ≤ p ∧ p ≤ 2000000000) (hw : -2147483648 ≤ w ∧ w ≤ 2147483647) : f_M_adds N (w_i h G) m (iI p) (iI w) = some ((), w_i h (aG A m G p w)) := by
  unfold f_M_adds f_M_adds_41 aG
  by_cases h0 : w = 0
  · rw [if_pos (show iI w = (0 : Int32) from (iI_eq (b := 0) hw (by omega)).mpr h0), if_pos h0]
  · rw [if_neg (show ¬ iI w = (0 : Int32) from fun q => h0 ((iI_eq (b := 0) hw (by omega)).mp q)), if_neg h0, iI_l (by omega) (by omega), show (-5000 : Int64) = lI (-5000) from rfl, show (5000 : Int64) = lI 5000 from rfl, isIn_is N _ (by omega) (by omega) (by omega)]
    simp only [cl]
    by_cases hr : -5000 ≤ p ∧ p ≤ 5000
    · rw [if_pos hr, if_neg (by decide), gR_at (M.wi G) (i := 4) (k := 50) (n := 10003) (by decide), show (5002 : Int32) = iI 5002 from rfl, iI_add, aI_iI ((M.wi G).ro (i := 4) (n := 10003) (by decide)) (by omega) (by omega) (by omega), uI_iI ((M.wi G).ro (i := 4) (n := 10003) (by decide)) (by omega) (by omega) (by omega)]
      rw [if_pos hr]
      rfl
    · rw [if_neg hr, if_pos rfl, pZ_at (M.wi G) (Or.inr rfl), if_neg hr]
      rfl
/-- the table behind 'kink', 'over', 'under' -/
def zLean (Z : Nat → Int) (a b c : Int) (k : Nat) : Int := if k = 0 then Z 0 - b else if k = 1 then Z 1 + b * (a + 5000) else if k = (5002 + a).toNat then Z k + (b + c) else Z k
theorem zi_iI {x : Int32} {z : Int} (h : x = iI z) (h1 : -2147483648 ≤ z) (h2 : z ≤ 2147483647) : x.toInt = z := by rw [h]; exact iI_toInt h1 h2
theorem leans_is (N : Nat) {A : Nat → Nat} {m : Nat} {h : hS} (M : MO A m h) (G : Nat → Nat → Int32) {a b c : Int} (ha : -500 ≤ a ∧ a ≤ 500) (hb : 0 ≤ b ∧ b ≤ 99) (hc : 0 ≤ c ∧ c ≤ 99)
    (h0 : -1000000 ≤ zi (G (A 4)) 0 ∧ zi (G (A 4)) 0 ≤ 1000000) (h1 : -1000000000 ≤ zi (G (A 4)) 1 ∧ zi (G (A 4)) 1 ≤ 1000000000) (h2 : 0 ≤ zi (G (A 4)) (5002 + a).toNat ∧ zi (G (A 4)) (5002 + a).toNat ≤ 1000000) :
    ∃ G', f_M_leans N (w_i h G) m (iI a) (iI b) (iI c) = some ((), w_i h G') ∧ (∀ q, q ≠ A 4 → G' q = G q) ∧ ∀ k, zi (G' (A 4)) k = zLean (zi (G (A 4))) a b c k := by
  have m4 : (4, 50, 10003) ∈ mrows := by decide
  unfold f_M_leans
  rw [gR_at (M.wi G) m4, show (0 : Int32) = iI 0 from rfl, aI_iI ((M.wi G).ro m4) (by omega) (by omega) (by omega), uI_iI ((M.wi G).ro m4) (by omega) (by omega) (by omega), s_i_wi, gR_at (M.wi _) m4, show (1 : Int32) = iI 1 from rfl, aI_iI ((M.wi _).ro m4) (by omega) (by omega) (by omega), uI_iI ((M.wi _).ro m4) (by omega) (by omega) (by omega), s_i_wi, cv_at (M.wi _), iI_add, adds_is N M _ (by omega) (by omega)]
  simp only [cl]
  refine ⟨_, rfl, fun q hq => ?_, fun k => ?_⟩
  · unfold aG
    by_cases hz : b + c = 0
    · rw [if_pos hz]; simp [va_up, hq, h_i_wi]
    · rw [if_neg hz, if_pos (by omega)]; simp [va_up, hq, h_i_wi]
  · have hbm : b * (a + 5000) ≤ 99 * 5500 ∧ 0 ≤ b * (a + 5000) := ⟨Int.le_trans (Int.mul_le_mul_of_nonneg_right hb.2 (by omega)) (by omega), Int.mul_nonneg hb.1 (by omega)⟩
    have e0 : G (A 4) 0 - iI b = iI (zi (G (A 4)) 0 - b) := by
      show _ = iI ((G (A 4) 0).toInt - b)
      rw [← iI_sub, toInt_iI]
    have e1 : G (A 4) 1 + iI b * (iI a + 5000) = iI (zi (G (A 4)) 1 + b * (a + 5000)) := by
      show _ = iI ((G (A 4) 1).toInt + b * (a + 5000))
      rw [← iI_add, toInt_iI, ← iI_mul, ← iI_add]
      rfl
    have e2 : G (A 4) (5002 + a).toNat + iI (b + c) = iI (zi (G (A 4)) (5002 + a).toNat + (b + c)) := by
      show _ = iI ((G (A 4) (5002 + a).toNat).toInt + (b + c))
      rw [← iI_add (G (A 4) (5002 + a).toNat).toInt, toInt_iI]
    have n0 : ¬ (5002 + a).toNat = 0 := by omega
    have n1 : ¬ (5002 + a).toNat = 1 := by omega
    unfold aG zLean zi
    by_cases hz : b + c = 0
    · rw [if_pos hz]
      simp only [va_up, if_pos, h_i_wi, upd]
      by_cases k0 : k = 0
      · subst k0
        have := zi_iI e0 (by omega) (by omega)
        simpa [zi] using this
      · by_cases k1 : k = 1
        · subst k1
          have := zi_iI e1 (by omega) (by omega)
          simpa [zi] using this
        · simp [k0, k1]
          intro _; omega
    · rw [if_neg hz, if_pos (by omega)]
      simp only [va_up, if_pos, h_i_wi, upd]
      by_cases k0 : k = 0
      · subst k0
        have := zi_iI e0 (by omega) (by omega)
        simpa [zi, Ne.symm n0] using this
      · by_cases k1 : k = 1
        · subst k1
          have := zi_iI e1 (by omega) (by omega)
          simpa [zi, Ne.symm n1] using this
        · by_cases k2 : k = (5002 + a).toNat
          · subst k2
            have := zi_iI e2 (by omega) (by omega)
            simpa [zi, n0, n1] using this
          · simp [k0, k1, k2]
