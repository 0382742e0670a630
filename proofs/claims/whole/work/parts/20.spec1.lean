/-! WHAT THE PURE PROGRAMS ANSWER: rows of ints, sums along them -/
/-- a row of n ints -/
def ro (h : hS) (a n : Nat) : Prop := h_k h a = 50 ∧ h_n h a = n
theorem ro.sm {h g : hS} {a n : Nat} (r : ro h a n) (s : sm g h) : ro g a n := ⟨by rw [s.1]; exact r.1, by rw [s.2.1]; exact r.2⟩
theorem aI_at {β : Type} {h : hS} {a n j : Nat} {f : Int32 → Option β} (hr : ro h a n) (hj : j < n) (hn : n < 2 ^ 31) : aI h 50 (some a) (nI j) f = f (h_i h a j) := by
  have h1 : inb (nI j) (h_n h a) := by rw [hr.2]; exact nI_in hj hn
  show (if h_k h a = 50 ∧ inb (nI j) (h_n h a) then f (h_i h a (nI j).toNatClampNeg) else none) = _
  rw [if_pos ⟨hr.1, h1⟩, nI_clamp (by omega)]
theorem uI_at {β : Type} {h : hS} {a n j : Nat} {v : Int32} {f : hS → Option β} (hr : ro h a n) (hj : j < n) (hn : n < 2 ^ 31) : uI h (some a) (nI j) v f = f (s_i h a j v) := by
  have h1 : inb (nI j) (h_n h a) := by rw [hr.2]; exact nI_in hj hn
  show (if h_k h a = 50 ∧ inb (nI j) (h_n h a) then f (s_i h a (nI j).toNatClampNeg v) else none) = _
  rw [if_pos ⟨hr.1, h1⟩, nI_clamp (by omega)]
theorem lnA_at {β : Type} {h : hS} {a n : Nat} {f : Int32 → Option β} (hr : ro h a n) : lnA h 50 (some a) f = f (nI n) := by
  show (if h_k h a = 50 then f (Int32.ofNat (h_n h a)) else none) = _
  rw [if_pos hr.1, hr.2]; rfl
/-- the sum of m entries from off on -/
def sI (T : Nat → Int32) (off : Nat) : Nat → Int32
  | 0 => 0
  | m + 1 => T off + sI T (off + 1) m
theorem weights_loop (N : Nat) {h : hS} {a : Nat} (hr : ro h a 10003) : ∀ (m n j : Nat) (acc : Int32), j + m = 10001 → m < n → f_M_weights_4 N n h a acc (nI j) = some (acc + sI (h_i h a) (2 + j) m, h) := by
  intro m
  induction m with
  | zero =>
    intro n j acc hj hn
    obtain ⟨n, rfl⟩ : ∃ q, n = q + 1 := ⟨n - 1, by omega⟩
    rw [show j = 10001 by omega]
    unfold f_M_weights_4
    rw [if_pos (by decide)]
    simp [sI]
  | succ m ih =>
    intro n j acc hj hn
    obtain ⟨n, rfl⟩ : ∃ q, n = q + 1 := ⟨n - 1, by omega⟩
    unfold f_M_weights_4
    rw [if_neg (show ¬ (10001 : Int32) ≤ nI j from nI_ge (b := 10001) (by omega) (by omega)), show (2 : Int32) = nI 2 from rfl, nI_add, aI_at hr (by omega) (by omega)]
    simp only [bn]
    rw [nI_1, ih n (j + 1) _ (by omega) (by omega), sI, show 2 + (j + 1) = 2 + j + 1 by omega, Int32.add_assoc]
theorem weights_is (N : Nat) (hN : 10002 ≤ N) {h : hS} {a : Nat} (hr : ro h a 10003) : f_M_weights N h a = some (sI (h_i h a) 2 10001, h) := by
  unfold f_M_weights
  have := weights_loop N hr 10001 N 0 0 (by omega) (by omega)
  rw [show nI 0 = 0 from rfl] at this
  rw [this]
  simp
/-- a row of ints is written whole -/
def s_w (h : hS) (a : Nat) (T : Nat → Int32) : hS := (h.1, h.2.1, va_up h.2.2.1 a T, h.2.2.2)
theorem h_i_sw (h : hS) (a : Nat) (T : Nat → Int32) (b : Nat) : h_i (s_w h a T) b = if b = a then T else h_i h b := rfl
theorem s_w_i (h : hS) (a k : Nat) (v : Int32) (T : Nat → Int32) : s_i (s_w h a T) a k v = s_w h a (upd T k v) := by
  simp only [s_i, s_w, va_up]
  congr 3
  funext b
  by_cases hb : b = a <;> simp [va_up, hb]
theorem s_w_self (h : hS) (a : Nat) : s_w h a (h_i h a) = h := by
  have : va_up h.2.2.1 a (h.2.2.1 a) = h.2.2.1 := by
    funext b
    by_cases hb : b = a
    · subst hb; simp [va_up]
    · simp [va_up, hb]
  show (h.1, h.2.1, va_up h.2.2.1 a (h.2.2.1 a), h.2.2.2) = h
  rw [this]
theorem sm_w (h : hS) (a : Nat) (T : Nat → Int32) : sm (s_w h a T) h := ⟨rfl, rfl, rfl, rfl⟩
theorem s_w_w (h : hS) (a : Nat) (T U : Nat → Int32) : s_w (s_w h a T) a U = s_w h a U := by
  simp only [s_w, va_up]
  congr 3
  funext b
  by_cases hb : b = a <;> simp [va_up, hb]
/-- the first j entries of U, the rest of T -/
def upto (T U : Nat → Int32) (j : Nat) : Nat → Int32 := fun k => if k < j then U k else T k
theorem upto_0 (T U : Nat → Int32) : upto T U 0 = T := by funext k; simp [upto]
theorem upto_upd (T U : Nat → Int32) (j : Nat) : upd (upto T U j) j (U j) = upto T U (j + 1) := by
  funext k
  by_cases h : k = j
  · subst h; simp [upd, upto]
  · by_cases h2 : k < j
    · simp [upd, upto, h, h2, show k < j + 1 by omega]
    · simp [upd, upto, h, h2, show ¬ k < j + 1 by omega]
theorem copyTo_loop (N : Nat) {h : hS} {a b len : Nat} (ha : ro h a len) (hb : ro h b len) (hab : a ≠ b) (hl : len < 2 ^ 31) : ∀ (m n j : Nat), j + m = len → m < n → f_M_copyTo_2 N n (s_w h a (upto (h_i h a) (h_i h b) j)) a b (nI j) = some ((), s_w h a (upto (h_i h a) (h_i h b) len)) := by
  intro m
  induction m with
  | zero =>
    intro n j hj hn
    obtain ⟨n, rfl⟩ : ∃ q, n = q + 1 := ⟨n - 1, by omega⟩
    rw [show j = len by omega]
    unfold f_M_copyTo_2
    rw [lnA_at (ha.sm (sm_w _ _ _)), if_pos (nI_le (Nat.le_refl _) hl)]
  | succ m ih =>
    intro n j hj hn
    obtain ⟨n, rfl⟩ : ∃ q, n = q + 1 := ⟨n - 1, by omega⟩
    unfold f_M_copyTo_2
    rw [lnA_at (ha.sm (sm_w _ _ _)), if_neg (nI_ge (by omega) hl), aI_at (hb.sm (sm_w _ _ _)) (by omega) hl, uI_at (ha.sm (sm_w _ _ _)) (by omega) hl]
    simp only [bn]
    rw [h_i_sw, if_neg (Ne.symm hab), s_w_i, upto_upd, nI_1]
    exact ih n (j + 1) (by omega) (by omega)
theorem copyTo_is (N : Nat) {h : hS} {a b len : Nat} (hN : len < N) (ha : ro h a len) (hb : ro h b len) (hab : a ≠ b) (hl : len < 2 ^ 31) : f_M_copyTo N h a b = some ((), s_w h a (upto (h_i h a) (h_i h b) len)) := by
  have := copyTo_loop N ha hb hab hl len N 0 (by omega) hN
  rw [upto_0, s_w_self] at this
  exact this
