/-! WHAT THE PURE PROGRAMS ANSWER: rows of ints, sums along them -/
/-- a row of n ints -/
def ro (h : hS) (a n : Nat) : Prop := h_k h a = 50 ∧ h_n h a = n
theorem ro.sm {h g : hS} {a n : Nat} (r : ro h a n) (s : sm g h) : ro g a n := ⟨by rw [s.1]; exact r.1, by rw [s.2.1]; exact r.2⟩
theorem aI_at {β : Type} {h : hS} {a n j : Nat} {f : Int32 → Option β} (hr : ro h a n) (hj : j < n) (hn : n < 2 ^ 31) : aI h 50 (some a) (nI j) f = f (h_i h a j) := by
  have h1 : inb (nI j) (h_n h a) := by rw [hr.2]; exact nI_in hj hn
  show (if h_k h a = 50 ∧ inb (nI j) (h_n h a) then f (h_i h a (nI j).toNatClampNeg) else none) = _
  rw [if_pos ⟨hr.1, h1⟩, nI_clamp (by omega)]
theorem uI_at {β : Type} {h : hS} {a n j : Nat} {v : Int32} {f : hS → Option β} (hr : ro h a n) (hj : j < n) (hn : n < 2 ^ 31) : uI h (some a) (nI j) v f = f (s_i h a j v) := by
  have h1 : inb (nI j) (h_n h a) := by rw [hr.2]; exact nI_in hj hn
  show (if h_k h a = 50 ∧ inb (nI j) (h_n h a) then f (s_i h a (nI j).toNatClampNeg v) else none) = _
  rw [if_pos ⟨hr.1, h1⟩, nI_clamp (by omega)]
theorem lnA_at {β : Type} {h : hS} {a n : Nat} {f : Int32 → Option β} (hr : ro h a n) : lnA h 50 (some a) f = f (nI n) := by
  show (if h_k h a = 50 then f (Int32.ofNat (h_n h a)) else none) = _
  rw [if_pos hr.1, hr.2]; rfl
/-- the sum of m entries from off on -/
def sI (T : Nat → Int32) (off : Nat) : Nat → Int32
  | 0 => 0
  | m + 1 => T off + sI T (off + 1) m
theorem weights_loop (N : Nat) {h : hS} {a : Nat} (hr : ro h a 10003) : ∀ (m n j : Nat) (acc : Int32), j + m = 10001 → m < n → f_M_weights_4 N n h a acc (nI j) = some (acc + sI (h_i h a) (2 + j) m, h) := by
  intro m
  induction m with
  | zero =>
    intro n j acc hj hn
    obtain ⟨n, rfl⟩ : ∃ q, n = q + 1 := ⟨n - 1, by omega⟩
    rw [show j = 10001 by omega]
    unfold f_M_weights_4
    rw [if_pos (by decide)]
    simp [sI]
  | succ m ih =>
    intro n j acc hj hn
    obtain ⟨n, rfl⟩ : ∃ q, n = q + 1 := ⟨n - 1, by omega⟩
    unfold f_M_weights_4
    rw [if_neg (show ¬ (10001 : Int32) ≤ nI j from nI_ge (b := 10001) (by omega) (by omega)), show (2 : Int32) = nI 2 from rfl, nI_add, aI_at hr (by omega) (by omega)]
    simp only [bn]
    rw [nI_1, ih n (j + 1) _ (by omega) (by omega), sI, show 2 + (j + 1) = 2 + j + 1 by omega, Int32.add_assoc]
theorem weights_is (N : Nat) (hN : 10002 ≤ N) {h : hS} {a : Nat} (hr : ro h a 10003) : f_M_weights N h a = some (sI (h_i h a) 2 10001, h) := by
  unfold f_M_weights
  have := weights_loop N hr 10001 N 0 0 (by omega) (by omega)
  rw [show nI 0 = 0 from rfl] at this
  rw [this]
  simp
/-- a row of ints is written whole -/
def s_w (h : hS) (a : Nat) (T : Nat → Int32) : hS := (h.1, h.2.1, va_up h.2.2.1 a T, h.2.2.2)
theorem h_i_sw (h : hS) (a : Nat) (T : Nat → Int32) (b : Nat) : h_i (s_w h a T) b = if b = a then T else h_i h b := rfl
theorem s_w_i (h : hS) (a k : Nat) (v : Int32) (T : Nat → Int32) : s_i (s_w h a T) a k v = s_w h a (upd T k v) := by
  simp only [s_i, s_w, va_up]
  congr 3
  funext b
  by_cases hb : b = a <;> simp [va_up, hb]
theorem s_w_self (h : hS) (a : Nat) : s_w h a (h_i h a) = h := by
  have : va_up h.2.2.1 a (h.2.2.1 a) = h.2.2.1 := by
    funext b
    by_cases hb : b = a
    · subst hb; simp [va_up]
    · simp [va_up, hb]
  show (h.1, h.2.1, va_up h.2.2.1 a (h.2.2.1 a), h.2.2.2) = h
  rw [this]
theorem sm_w (h : hS) (a : Nat) (T : Nat → Int32) : sm (s_w h a T) h := ⟨rfl, rfl, rfl, rfl⟩
theorem s_w_w (h : hS) (a : Nat) (T U : Nat → Int32) : s_w (s_w h a T) a U = s_w h a U := by
  simp only [s_w, va_up]
  congr 3
  funext b
  by_cases hb : b = a <;> simp [va_up, hb]
/-- the first j entries of U, the rest of T -/
def upto (T U : Nat → Int32) (j : Nat) : Nat → Int32 := fun k => if k < j then U k else T k
theorem upto_0 (T U : Nat → Int32) : upto T U 0 = T := by funext k; simp [upto]
theorem upto_upd (T U : Nat → Int32) (j : Nat) : upd (upto T U j) j (U j) = upto T U (j + 1) := by
  funext k
  by_cases h : k = j
  · subst h; simp [upd, upto]
  · by_cases h2 : k < j
    · simp [upd, upto, h, h2, show k < j + 1 by omega]
    · simp [upd, upto, h, h2, show ¬ k < j + 1 by omega]
theorem copyTo_loop (N : Nat) {h : hS} {a b len : Nat} (ha : ro h a len) (hb : ro h b len) (hab : a ≠ b) (hl : len < 2 ^ 31) : ∀ (m n j : Nat), j + m = len → m < n → f_M_copyTo_2 N n (s_w h a (upto (h_i h a) (h_i h b) j)) a b (nI j) = some ((), s_w h a (upto (h_i h a) (h_i h b) len)) := by
  intro m
  induction m with
  | zero =>
    intro n j hj hn
    obtain ⟨n, rfl⟩ : ∃ q, n = q + 1 := ⟨n - 1, by omega⟩
    rw [show j = len by omega]
    unfold f_M_copyTo_2
    rw [lnA_at (ha.sm (sm_w _ _ _)), if_pos (nI_le (Nat.le_refl _) hl)]
  | succ m ih =>
    intro n j hj hn
    obtain ⟨n, rfl⟩ : ∃ q, n = q + 1 := ⟨n - 1, by omega⟩
    unfold f_M_copyTo_2
    rw [lnA_at (ha.sm (sm_w _ _ _)), if_neg (nI_ge (by omega) hl), aI_at (hb.sm (sm_w _ _ _)) (by omega) hl, uI_at (ha.sm (sm_w _ _ _)) (by omega) hl]
    simp only [bn]
    rw [h_i_sw, if_neg (Ne.symm hab), s_w_i, upto_upd, nI_1]
    exact ih n (j + 1) (by omega) (by omega)
theorem copyTo_is (N : Nat) {h : hS} {a b len : Nat} (hN : len < N) (ha : ro h a len) (hb : ro h b len) (hab : a ≠ b) (hl : len < 2 ^ 31) : f_M_copyTo N h a b = some ((), s_w h a (upto (h_i h a) (h_i h b) len)) := by
  have := copyTo_loop N ha hb hab hl len N 0 (by omega) hN
  rw [upto_0, s_w_self] at this
  exact this
/-! valueAt, turnsTo, kinks, nearest -/
theorem aI_iI {β : Type} {h : hS} {a n : Nat} {z : Int} {f : Int32 → Option β} (hr : ro h a n) (h0 : 0 ≤ z) (hj : z < n) (hn : n < 2 ^ 31) : aI h 50 (some a) (iI z) f = f (h_i h a z.toNat) := by
  rw [show iI z = nI z.toNat by rw [nI_iI]; congr 1; omega]
  exact aI_at hr (by omega) hn
theorem valueAt_loop (N : Nat) {h : hS} {a : Nat} (hr : ro h a 10003) {x : Int} (hx : -5000 < x) (hx2 : x ≤ 2000000000) : ∀ (m n j : Nat), (j : Int) + m = min x 5000 + 5000 → m < n → f_M_valueAt_46 N n h a (iI x) (lI (zV (zi (h_i h a)) j)) (lI (zS (zi (h_i h a)) j)) (iI (min x 5000)) (iI ((j : Int) - 5000)) = some (lI (zVal (zi (h_i h a)) x), h) := by
  intro m
  induction m with
  | zero =>
    intro n j hj hn
    obtain ⟨n, rfl⟩ : ∃ q, n = q + 1 := ⟨n - 1, by omega⟩
    unfold f_M_valueAt_46
    rw [if_pos ((iI_le (by omega) (by omega)).mpr (by omega))]
    by_cases h5 : 5000 < x
    · have hj2 : j = 10000 := by omega
      subst hj2
      rw [if_pos (show (5000 : Int32) < iI x from (iI_lt (a := 5000) (by omega) (by omega)).mpr h5), show (10002 : Int32) = iI 10002 from rfl, aI_iI hr (by omega) (by omega) (by omega), show (5000 : Int32) = iI 5000 from rfl, iI_sub, iI_l (by omega) (by omega), i_l]
      unfold f_M_valueAt_107
      rw [lI_add, lI_mul, lI_add, zVal, if_neg (by omega)]
      obtain ⟨q, hq⟩ : ∃ q : Nat, x = 5000 + (q : Int) := ⟨(x - 5000).toNat, by omega⟩
      rw [show (x + 5000).toNat = 10000 + q by omega, zV_far]
      have e : zS (zi (h_i h a)) 10001 = zS (zi (h_i h a)) 10000 + (h_i h a (10002 : Int).toNat).toInt := by
        rw [zS, zW, if_pos (by omega)]; rfl
      rw [e, show x - 5000 = (q : Int) by omega]
    · rw [if_neg (show ¬ (5000 : Int32) < iI x from fun q => h5 ((iI_lt (a := 5000) (by omega) (by omega)).mp q))]
      unfold f_M_valueAt_107
      rw [zVal, if_neg (by omega), show (x + 5000).toNat = j by omega]
  | succ m ih =>
    intro n j hj hn
    obtain ⟨n, rfl⟩ : ∃ q, n = q + 1 := ⟨n - 1, by omega⟩
    unfold f_M_valueAt_46
    rw [if_neg (fun q => absurd ((iI_le (by omega) (by omega)).mp q) (by omega)), show (5002 : Int32) = iI 5002 from rfl, iI_add, aI_iI hr (by omega) (by omega) (by omega)]
    simp only [bn]
    rw [i_l, lI_add, lI_add, show (1 : Int32) = iI 1 from rfl, iI_add]
    have e1 : zS (zi (h_i h a)) j + (h_i h a (5002 + ((j : Int) - 5000)).toNat).toInt = zS (zi (h_i h a)) (j + 1) := by
      rw [zS, zW, if_pos (by omega), show (5002 + ((j : Int) - 5000)).toNat = 2 + j by omega]; rfl
    rw [e1, show zV (zi (h_i h a)) j + zS (zi (h_i h a)) (j + 1) = zV (zi (h_i h a)) (j + 1) from rfl, show (j : Int) - 5000 + 1 = ((j + 1 : Nat) : Int) - 5000 by omega]
    exact ih n (j + 1) (by omega) (by omega)
theorem jmn_is {a b : Int} (ha : -2147483648 ≤ a ∧ a ≤ 2147483647) (hb : -2147483648 ≤ b ∧ b ≤ 2147483647) : jmn (iI a) (iI b) = iI (min a b) := by
  unfold jmn
  by_cases h : b < a
  · rw [if_pos ((iI_lt hb ha).mpr h), Int.min_def, if_neg (by omega)]
  · rw [if_neg (fun q => h ((iI_lt hb ha).mp q)), Int.min_def, if_pos (by omega)]
theorem jmx_is {a b : Int} (ha : -2147483648 ≤ a ∧ a ≤ 2147483647) (hb : -2147483648 ≤ b ∧ b ≤ 2147483647) : jmx (iI a) (iI b) = iI (max a b) := by
  unfold jmx
  by_cases h : a < b
  · rw [if_pos ((iI_lt ha hb).mpr h), Int.max_def, if_pos (by omega)]
  · rw [if_neg (fun q => h ((iI_lt ha hb).mp q)), Int.max_def]
    by_cases h2 : a ≤ b
    · rw [if_pos h2, show a = b by omega]
    · rw [if_neg h2]
theorem valueAt_is (N : Nat) (hN : 10002 ≤ N) {h : hS} {a : Nat} (hr : ro h a 10003) {x : Int} (hx : -2000000000 ≤ x) (hx2 : x ≤ 2000000000) : f_M_valueAt N h a (iI x) = some (lI (zVal (zi (h_i h a)) x), h) := by
  unfold f_M_valueAt
  rw [show (1 : Int32) = iI 1 from rfl, aI_iI hr (by omega) (by omega) (by omega)]
  simp only [bn]
  by_cases h5 : -5000 < x
  · rw [if_pos (show (-5000 : Int32) < iI x from (iI_lt (a := -5000) (by omega) (by omega)).mpr h5), show (0 : Int32) = iI 0 from rfl, aI_iI hr (by omega) (by omega) (by omega), show (5000 : Int32) = iI 5000 from rfl, jmn_is (by omega) (by omega), i_l, i_l]
    have := valueAt_loop N hr h5 hx2 (min x 5000 + 5000).toNat N 0 (by omega) (by omega)
    exact this
  · rw [if_neg (show ¬ (-5000 : Int32) < iI x from fun q => h5 ((iI_lt (a := -5000) (by omega) (by omega)).mp q)), show (0 : Int32) = iI 0 from rfl, aI_iI hr (by omega) (by omega) (by omega), show (5000 : Int32) = iI 5000 from rfl, iI_add, iI_l (by omega) (by omega), i_l, i_l, lI_mul, lI_add, zVal, if_pos (by omega)]
    rfl
/-- slopes of a table that stay small -/
def sb (Z : Nat → Int) : Prop := ∀ j, j ≤ 10001 → -1000000 ≤ zS Z j ∧ zS Z j ≤ 1000000
/-- the first place from k on (of m) at which the slope comes to be no less than s -/
def zFd (Z : Nat → Int) (s : Int) : Nat → Nat → Int
  | 0, _ => 100000000
  | m + 1, k => if s ≤ zS Z (k + 1) then (k : Int) - 5000 else zFd Z s m (k + 1)
def zTurn (Z : Nat → Int) (s : Int) : Int := if s ≤ Z 0 then -100000000 else zFd Z s 10001 0
theorem zFd_rng (Z : Nat → Int) (s : Int) : ∀ m k, k + m = 10001 → -5000 ≤ zFd Z s m k ∧ zFd Z s m k ≤ 100000000 := by
  intro m
  induction m with
  | zero => intro k hk; simp [zFd]
  | succ m ih =>
    intro k hk
    rw [zFd]
    by_cases h : s ≤ zS Z (k + 1)
    · rw [if_pos h]; omega
    · rw [if_neg h]; exact ih (k + 1) (by omega)
theorem turnsTo_loop (N : Nat) {h : hS} {a : Nat} (hr : ro h a 10003) (hS : sb (zi (h_i h a))) {s : Int} (hs : -1000000 ≤ s ∧ s ≤ 1000000) : ∀ (m n j : Nat), j + m = 10001 → m < n → f_M_turnsTo_14 N n h a (iI s) (iI (zS (zi (h_i h a)) j)) (iI j) = some (iI (zFd (zi (h_i h a)) s m j), h) := by
  intro m
  induction m with
  | zero =>
    intro n j hj hn
    obtain ⟨n, rfl⟩ : ∃ q, n = q + 1 := ⟨n - 1, by omega⟩
    unfold f_M_turnsTo_14
    rw [if_pos (show (10001 : Int32) ≤ iI j from (iI_le (a := 10001) (by omega) (by omega)).mpr (by omega))]
    rfl
  | succ m ih =>
    intro n j hj hn
    obtain ⟨n, rfl⟩ : ∃ q, n = q + 1 := ⟨n - 1, by omega⟩
    unfold f_M_turnsTo_14
    rw [if_neg (show ¬ (10001 : Int32) ≤ iI j from fun q => absurd ((iI_le (a := 10001) (by omega) (by omega)).mp q) (by omega)), show (2 : Int32) = iI 2 from rfl, iI_add, aI_iI hr (by omega) (by omega) (by omega)]
    simp only [bn]
    have e1 : iI (zS (zi (h_i h a)) j) + h_i h a ((2 : Int) + j).toNat = iI (zS (zi (h_i h a)) (j + 1)) := by
      rw [← toInt_iI (h_i h a ((2 : Int) + j).toNat), iI_add, zS, zW, if_pos (by omega), show ((2 : Int) + j).toNat = 2 + j by omega]; rfl
    have hb := hS (j + 1) (by omega)
    rw [e1, zFd]
    by_cases hc : s ≤ zS (zi (h_i h a)) (j + 1)
    · rw [if_neg (fun q => absurd ((iI_lt (by omega) (by omega)).mp q) (by omega)), if_pos hc, show (5000 : Int32) = iI 5000 from rfl, iI_sub]
    · rw [if_pos ((iI_lt (by omega) (by omega)).mpr (by omega)), if_neg hc, show (1 : Int32) = iI 1 from rfl, iI_add, show (j : Int) + 1 = ((j + 1 : Nat) : Int) by omega]
      exact ih n (j + 1) (by omega) (by omega)
theorem turnsTo_is (N : Nat) (hN : 10002 ≤ N) {h : hS} {a : Nat} (hr : ro h a 10003) (hS : sb (zi (h_i h a))) {s : Int} (hs : -1000000 ≤ s ∧ s ≤ 1000000) : f_M_turnsTo N h a (iI s) = some (iI (zTurn (zi (h_i h a)) s), h) := by
  unfold f_M_turnsTo
  rw [show (0 : Int32) = iI 0 from rfl, aI_iI hr (by omega) (by omega) (by omega)]
  have hb := hS 0 (by omega)
  have e0 : h_i h a (0 : Int).toNat = iI (zS (zi (h_i h a)) 0) := (toInt_iI _).symm
  rw [e0, zTurn]
  by_cases hc : s ≤ zi (h_i h a) 0
  · rw [if_neg (fun q => absurd ((iI_lt (by omega) (by omega)).mp q) (by have : zS (zi (h_i h a)) 0 = zi (h_i h a) 0 := rfl; omega)), if_pos hc]
    rfl
  · rw [if_pos ((iI_lt (by omega) (by omega)).mpr (by have : zS (zi (h_i h a)) 0 = zi (h_i h a) 0 := rfl; omega)), if_neg hc]
    exact turnsTo_loop N hr hS hs 10001 N 0 (by omega) (by omega)
theorem flatFrom_is (N : Nat) (hN : 10002 ≤ N) {h : hS} {a : Nat} (hr : ro h a 10003) (hS : sb (zi (h_i h a))) : f_M_flatFrom N h a = some (iI (zTurn (zi (h_i h a)) 0), h) := by
  unfold f_M_flatFrom
  rw [show (0 : Int32) = iI 0 from rfl, turnsTo_is N hN hr hS (by omega)]
  rfl
theorem flatTo_is (N : Nat) (hN : 10002 ≤ N) {h : hS} {a : Nat} (hr : ro h a 10003) (hS : sb (zi (h_i h a))) : f_M_flatTo N h a = some (iI (zTurn (zi (h_i h a)) 1), h) := by
  unfold f_M_flatTo
  rw [show (1 : Int32) = iI 1 from rfl, turnsTo_is N hN hr hS (by omega)]
  rfl
/-- the place of a stretch that is nearest to another one -/
def zNear (a b x : Int) : Int := if x < a then a else if b < x then b else x
theorem nearest_is (N : Nat) (h : hS) {a b x : Int} (ha : -2147483648 ≤ a ∧ a ≤ 2147483647) (hb : -2147483648 ≤ b ∧ b ≤ 2147483647) (hx : -2147483648 ≤ x ∧ x ≤ 2147483647) : f_M_nearest N h (iI a) (iI b) (iI x) = some (iI (zNear a b x), h) := by
  unfold f_M_nearest f_M_nearest_19 zNear
  by_cases h1 : x < a
  · rw [if_neg (fun q => absurd ((iI_le ha hx).mp q) (by omega)), if_pos h1]
  · rw [if_pos ((iI_le ha hx).mpr (by omega)), if_neg h1]
    by_cases h2 : b < x
    · rw [if_neg (fun q => absurd ((iI_le hx hb).mp q) (by omega)), if_pos h2]
    · rw [if_pos ((iI_le hx hb).mpr (by omega)), if_neg h2]
theorem zTurn_rng (Z : Nat → Int) (s : Int) : -100000000 ≤ zTurn Z s ∧ zTurn Z s ≤ 100000000 := by
  unfold zTurn
  by_cases h : s ≤ Z 0
  · rw [if_pos h]; omega
  · rw [if_neg h]; have := zFd_rng Z s 10001 0 (by omega); omega
def zLeast (Z : Nat → Int) : Int := zVal Z (zNear (zTurn Z 0) (zTurn Z 1) 0)
theorem leastOf_is (N : Nat) (hN : 10002 ≤ N) {h : hS} {a : Nat} (hr : ro h a 10003) (hS : sb (zi (h_i h a))) : f_M_leastOf N h a = some (lI (zLeast (zi (h_i h a))), h) := by
  unfold f_M_leastOf
  have r0 := zTurn_rng (zi (h_i h a)) 0
  have r1 := zTurn_rng (zi (h_i h a)) 1
  have r2 : -100000000 ≤ zNear (zTurn (zi (h_i h a)) 0) (zTurn (zi (h_i h a)) 1) 0 ∧ zNear (zTurn (zi (h_i h a)) 0) (zTurn (zi (h_i h a)) 1) 0 ≤ 100000000 := by
    unfold zNear
    split
    · omega
    · split <;> omega
  rw [flatFrom_is N hN hr hS]
  simp only [cl]
  rw [flatTo_is N hN hr hS]
  simp only [cl]
  rw [show (0 : Int32) = iI 0 from rfl, nearest_is N h (by omega) (by omega) (by omega)]
  simp only []
  rw [valueAt_is N hN hr (by omega) (by omega)]
  rfl
