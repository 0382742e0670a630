/-! weights that come to the table one after another; drifts -/
def aGs (A : Nat → Nat) (m : Nat) : List (Int × Int) → (Nat → Nat → Int32) → Nat → Nat → Int32
  | [], G => G
  | q :: L, G => aGs A m L (aG A m G q.1 q.2)
theorem aG_o {A : Nat → Nat} {m : Nat} {G : Nat → Nat → Int32} {p w : Int} {q : Nat} (h4 : q ≠ A 4) (hm : q ≠ m) : aG A m G p w q = G q := by
  unfold aG
  split
  · rfl
  · split
    · simp [va_up, h4]
    · simp [va_up, hm]
theorem aGs_o {A : Nat → Nat} {m : Nat} {q : Nat} (h4 : q ≠ A 4) (hm : q ≠ m) : ∀ (L : List (Int × Int)) (G : Nat → Nat → Int32), aGs A m L G q = G q := by
  intro L
  induction L with
  | nil => intro G; rfl
  | cons e L ih => intro G; rw [aGs, ih, aG_o h4 hm]
/-- what comes to place j of the row -/
def zCo : List (Int × Int) → Nat → Int
  | [], _ => 0
  | q :: L, j => (if 5002 + q.1 = (j : Int) ∧ -5000 ≤ q.1 ∧ q.1 ≤ 5000 then q.2 else 0) + zCo L j
/-- whether a weight would come beyond the places -/
def zWide : List (Int × Int) → Bool
  | [] => false
  | q :: L => (decide (q.2 ≠ 0) && !decide (-5000 ≤ q.1 ∧ q.1 ≤ 5000)) || zWide L
def zSum : List (Int × Int) → Int
  | [] => 0
  | q :: L => q.2 + zSum L
theorem aGs_m {A : Nat → Nat} {m : Nat} (hne : A 4 ≠ m) : ∀ (L : List (Int × Int)) (G : Nat → Nat → Int32) (k : Nat), aGs A m L G m k = if k = 9 ∧ zWide L = true then 1 else G m k := by
  intro L
  induction L with
  | nil => intro G k; simp [aGs, zWide]
  | cons e L ih =>
    intro G k
    rw [aGs, ih]
    unfold aG
    by_cases h0 : e.2 = 0
    · simp [zWide, h0]
    · by_cases hr : -5000 ≤ e.1 ∧ e.1 ≤ 5000
      · simp [zWide, h0, hr, va_up, Ne.symm hne]
      · by_cases hk : k = 9
        · subst hk; simp [zWide, h0, hr, va_up, upd]
        · simp [zWide, h0, hr, va_up, upd, hk]
theorem aGs_row {A : Nat → Nat} {m : Nat} (hne : A 4 ≠ m) : ∀ (L : List (Int × Int)) (G : Nat → Nat → Int32), (∀ q ∈ L, 0 ≤ q.2) → zSum L ≤ 1000000 → (∀ j, 2 ≤ j → j < 10003 → 0 ≤ zi (G (A 4)) j ∧ zi (G (A 4)) j + zSum L ≤ 2000000) → ∀ j, zi (aGs A m L G (A 4)) j = zi (G (A 4)) j + zCo L j := by
  intro L
  induction L with
  | nil => intro G _ _ _ j; simp [aGs, zCo]
  | cons e L ih =>
    intro G hp hs hG j
    have he : 0 ≤ e.2 := hp e (List.mem_cons_self)
    have hpL : ∀ q ∈ L, 0 ≤ q.2 := fun q hq => hp q (List.mem_cons_of_mem _ hq)
    have hsn : 0 ≤ zSum L := by
      clear ih hs hG hp
      induction L with
      | nil => simp [zSum]
      | cons a L ih2 => have := hpL a List.mem_cons_self; have := ih2 (fun q hq => hpL q (List.mem_cons_of_mem _ hq)); simp only [zSum]; omega
    simp only [zSum] at hs
    have key : ∀ j, zi (aG A m G e.1 e.2 (A 4)) j = zi (G (A 4)) j + (if 5002 + e.1 = (j : Int) ∧ -5000 ≤ e.1 ∧ e.1 ≤ 5000 then e.2 else 0) := by
      intro j
      unfold aG
      by_cases h0 : e.2 = 0
      · rw [if_pos h0, h0]; simp
      · rw [if_neg h0]
        by_cases hr : -5000 ≤ e.1 ∧ e.1 ≤ 5000
        · rw [if_pos hr]
          have g1 := hG (5002 + e.1).toNat (by omega) (by omega)
          simp only [zSum] at g1
          by_cases hj : 5002 + e.1 = (j : Int)
          · have hj2 : j = (5002 + e.1).toNat := by omega
            rw [if_pos ⟨hj, hr⟩, ← hj2]
            have e2 : G (A 4) j + iI e.2 = iI (zi (G (A 4)) j + e.2) := by
              show _ = iI ((G (A 4) j).toInt + e.2)
              rw [← iI_add (G (A 4) j).toInt, toInt_iI]
            rw [← hj2] at g1
            have := zi_iI e2 (by omega) (by omega)
            simpa [zi, va_up, upd] using this
          · have hj2 : ¬ j = (5002 + e.1).toNat := by omega
            rw [if_neg (fun q => hj q.1)]
            simp [zi, va_up, upd, hj2]
        · rw [if_neg hr, if_neg (fun q => hr q.2)]
          simp [zi, va_up, hne]
    rw [aGs, ih _ hpL (by omega) (fun j hj hj3 => ?_) j, key j, zCo]
    · omega
    · have g1 := hG j hj hj3
      simp only [zSum] at g1
      rw [key j]
      split <;> omega
/-- what a drift brings, place by place -/
def dlist (Z : Nat → Int) (d : Int) : Nat → Nat → List (Int × Int)
  | 0, _ => []
  | m + 1, j => ((j : Int) - 5000 + d, Z (2 + j)) :: dlist Z d m (j + 1)
theorem drifts_2 (N : Nat) {A : Nat → Nat} {m : Nat} {h : hS} (M : MO A m h) {d : Int} (hd : -1000 ≤ d ∧ d ≤ 1000) : ∀ (q n j : Nat) (G : Nat → Nat → Int32), j + q = 10001 → q < n → f_M_drifts_56 N n (w_i h G) m (iI d) (iI j) = some ((), w_i h (aGs A m (dlist (zi (G (A 6))) d q j) G)) := by
  have m4 : (4, 50, 10003) ∈ mrows := by decide
  have m6 : (6, 50, 10003) ∈ mrows := by decide
  intro q
  induction q with
  | zero =>
    intro n j G hj hn
    obtain ⟨n, rfl⟩ : ∃ q, n = q + 1 := ⟨n - 1, by omega⟩
    unfold f_M_drifts_56
    rw [if_pos (show (10001 : Int32) ≤ iI j from (iI_le (a := 10001) (by omega) (by omega)).mpr (by omega))]
    rfl
  | succ q ih =>
    intro n j G hj hn
    obtain ⟨n, rfl⟩ : ∃ q, n = q + 1 := ⟨n - 1, by omega⟩
    unfold f_M_drifts_56
    rw [if_neg (show ¬ (10001 : Int32) ≤ iI j from fun q => absurd ((iI_le (a := 10001) (by omega) (by omega)).mp q) (by omega)), gR_at (M.wi G) m6, show (2 : Int32) = iI 2 from rfl, iI_add, aI_iI ((M.wi G).ro m6) (by omega) (by omega) (by omega), cv_at (M.wi G), show (5000 : Int32) = iI 5000 from rfl, iI_sub, iI_add, h_i_wi, ← toInt_iI (G (A 6) ((2 : Int) + j).toNat), adds_is N M G (by omega) (i_rng _)]
    simp only [cl, bn]
    rw [show (1 : Int32) = iI 1 from rfl, iI_add, show (j : Int) + 1 = ((j + 1 : Nat) : Int) by omega, ih n (j + 1) _ (by omega) (by omega)]
    rw [aG_o (M.nn m6 m4 (by decide)) (M.ne m6 (by decide)), dlist, aGs, show ((2 : Int) + j).toNat = 2 + j by omega]
    rfl
/-- a row whose places are empty up to the j-th -/
def zer (F : Nat → Int32) (j : Nat) (k : Nat) : Int32 := if 2 ≤ k ∧ k < 2 + j then 0 else F k
theorem zer_0 (F : Nat → Int32) : zer F 0 = F := by funext k; simp [zer]; intro h1 h2; omega
theorem zer_upd (F : Nat → Int32) (j : Nat) : upd (zer F j) (2 + j) 0 = zer F (j + 1) := by
  funext k
  by_cases h : k = 2 + j
  · subst h; simp [upd, zer]
  · by_cases h2 : 2 ≤ k ∧ k < 2 + j
    · simp [upd, zer, h, h2, show k < 2 + (j + 1) by omega]
    · rw [upd, if_neg h, zer, if_neg h2, zer, if_neg (by omega)]
theorem zu_up {α : Type} (f : Nat → α) (a : Nat) (x y : α) : va_up (va_up f a x) a y = va_up f a y := by
  funext b
  by_cases h : b = a <;> simp [va_up, h]
theorem zu_self {α : Type} (f : Nat → α) (a : Nat) : va_up f a (f a) = f := by
  funext b
  by_cases h : b = a
  · subst h; simp [va_up]
  · simp [va_up, h]
theorem drifts_1 (N : Nat) (hN : 10002 ≤ N) {A : Nat → Nat} {m : Nat} {h : hS} (M : MO A m h) {d : Int} (hd : -1000 ≤ d ∧ d ≤ 1000) (G : Nat → Nat → Int32) (F : Nat → Int32) : ∀ (q n j : Nat), j + q = 10001 → q < n → f_M_drifts_32 N n (w_i h (va_up G (A 4) (zer F j))) m (iI d) (iI j) = some ((), w_i h (aGs A m (dlist (zi (G (A 6))) d 10001 0) (va_up G (A 4) (zer F 10001)))) := by
  have m4 : (4, 50, 10003) ∈ mrows := by decide
  have m6 : (6, 50, 10003) ∈ mrows := by decide
  intro q
  induction q with
  | zero =>
    intro n j hj hn
    obtain ⟨n, rfl⟩ : ∃ q, n = q + 1 := ⟨n - 1, by omega⟩
    unfold f_M_drifts_32
    rw [if_pos (show (10001 : Int32) ≤ iI j from (iI_le (a := 10001) (by omega) (by omega)).mpr (by omega)), show j = 10001 by omega]
    have := drifts_2 N M hd 10001 N 0 (va_up G (A 4) (zer F 10001)) (by omega) (by omega)
    rw [show va_up G (A 4) (zer F 10001) (A 6) = G (A 6) by simp [va_up, M.nn m6 m4 (by decide)]] at this
    exact this
  | succ q ih =>
    intro n j hj hn
    obtain ⟨n, rfl⟩ : ∃ q, n = q + 1 := ⟨n - 1, by omega⟩
    unfold f_M_drifts_32
    rw [if_neg (show ¬ (10001 : Int32) ≤ iI j from fun q => absurd ((iI_le (a := 10001) (by omega) (by omega)).mp q) (by omega)), gR_at (M.wi _) m4, show (2 : Int32) = iI 2 from rfl, iI_add, uI_iI ((M.wi _).ro m4) (by omega) (by omega) (by omega), s_i_wi, zu_up]
    simp only [bn]
    rw [show va_up G (A 4) (zer F j) (A 4) = zer F j by simp [va_up], show ((2 : Int) + j).toNat = 2 + j by omega, zer_upd, show (1 : Int32) = iI 1 from rfl, iI_add, show (j : Int) + 1 = ((j + 1 : Nat) : Int) by omega]
    exact ih n (j + 1) (by omega) (by omega)
theorem zW_congr {Z Y : Nat → Int} (h : ∀ k, k < 10003 → Z k = Y k) (p : Nat) : zW Z p = zW Y p := by
  unfold zW
  split
  · exact h _ (by omega)
  · rfl
theorem zS_congr {Z Y : Nat → Int} (h : ∀ k, k < 10003 → Z k = Y k) : ∀ n, zS Z n = zS Y n := by
  intro n
  induction n with
  | zero => exact h 0 (by omega)
  | succ n ih => rw [zS, zS, ih, zW_congr h]
theorem zV_congr {Z Y : Nat → Int} (h : ∀ k, k < 10003 → Z k = Y k) : ∀ n, zV Z n = zV Y n := by
  intro n
  induction n with
  | zero => exact h 1 (by omega)
  | succ n ih => rw [zV, zV, ih, zS_congr h]
theorem zVal_congr {Z Y : Nat → Int} (h : ∀ k, k < 10003 → Z k = Y k) (x : Int) : zVal Z x = zVal Y x := by
  unfold zVal
  rw [h 0 (by omega), h 1 (by omega), zV_congr h]
theorem zFd_congr {Z Y : Nat → Int} (h : ∀ k, k < 10003 → Z k = Y k) (s : Int) : ∀ m k, zFd Z s m k = zFd Y s m k := by
  intro m
  induction m with
  | zero => intro k; rfl
  | succ m ih => intro k; rw [zFd, zFd, zS_congr h, ih]
theorem zTurn_congr {Z Y : Nat → Int} (h : ∀ k, k < 10003 → Z k = Y k) (s : Int) : zTurn Z s = zTurn Y s := by
  unfold zTurn
  rw [h 0 (by omega), zFd_congr h]
theorem zLeast_congr {Z Y : Nat → Int} (h : ∀ k, k < 10003 → Z k = Y k) : zLeast Z = zLeast Y := by
  unfold zLeast
  rw [zTurn_congr h, zTurn_congr h, zVal_congr h]
theorem sb_congr {Z Y : Nat → Int} (h : ∀ k, k < 10003 → Z k = Y k) (s : sb Z) : sb Y := fun j hj => by rw [← zS_congr h]; exact s j hj
theorem zCo_dlist (Z : Nat → Int) (d : Int) : ∀ (q s j : Nat), s + q = 10001 → zCo (dlist Z d q s) j = if (2 : Int) ≤ j ∧ (j : Int) ≤ 10002 ∧ (s : Int) ≤ (j : Int) - 2 - d ∧ (j : Int) - 2 - d < 10001 then Z ((j : Int) - d).toNat else 0 := by
  intro q
  induction q with
  | zero =>
    intro s j hs
    rw [if_neg (by omega)]; rfl
  | succ q ih =>
    intro s j hs
    rw [dlist, zCo, ih (s + 1) j (by omega)]
    simp only []
    by_cases h1 : 5002 + ((s : Int) - 5000 + d) = (j : Int) ∧ -5000 ≤ (s : Int) - 5000 + d ∧ (s : Int) - 5000 + d ≤ 5000
    · rw [if_pos h1, if_neg (by omega), if_pos (by omega), show ((j : Int) - d).toNat = 2 + s by omega]
      omega
    · rw [if_neg h1]
      by_cases h2 : (2 : Int) ≤ j ∧ (j : Int) ≤ 10002 ∧ ((s + 1 : Nat) : Int) ≤ (j : Int) - 2 - d ∧ (j : Int) - 2 - d < 10001
      · rw [if_pos h2, if_pos (by omega)]; omega
      · rw [if_neg h2, if_neg (by omega)]; omega
/-- the table behind a drift -/
def zDrift (Z : Nat → Int) (d : Int) (k : Nat) : Int := if k = 0 then Z 0 else if k = 1 then zVal Z (-5000 - d) else if 2 ≤ (k : Int) - d ∧ (k : Int) - d ≤ 10002 then Z ((k : Int) - d).toNat else 0
theorem zSum_dlist_le (Z : Nat → Int) (d : Int) : ∀ (q s : Nat), zSum (dlist Z d q s) = zSum (dlist Z 0 q s) := by
  intro q
  induction q with
  | zero => intro s; rfl
  | succ q ih => intro s; simp only [dlist, zSum, ih]
theorem dlist_nonneg {Z : Nat → Int} {d : Int} : ∀ (q s : Nat), s + q = 10001 → (∀ k, 2 ≤ k → k < 10003 → 0 ≤ Z k) → ∀ e ∈ dlist Z d q s, 0 ≤ e.2 := by
  intro q
  induction q with
  | zero => intro s _ _ e he; simp [dlist] at he
  | succ q ih =>
    intro s hs hZ e he
    rw [dlist] at he
    rcases List.mem_cons.mp he with h | h
    · rw [h]; exact hZ _ (by omega) (by omega)
    · exact ih (s + 1) (by omega) hZ e h
theorem dlist_congr {Z Y : Nat → Int} {d : Int} (h : ∀ k, k < 10003 → Z k = Y k) : ∀ (q s : Nat), s + q = 10001 → dlist Z d q s = dlist Y d q s := by
  intro q
  induction q with
  | zero => intro s _; rfl
  | succ q ih => intro s hs; rw [dlist, dlist, h _ (by omega), ih (s + 1) (by omega)]
theorem uI_1 {β : Type} {h : hS} {a n : Nat} {v : Int32} {f : hS → Option β} (hr : ro h a n) (hj : 1 < n) (hn : n < 2 ^ 31) : uI h (some a) (1 : Int32) v f = f (s_i h a 1 v) := uI_iI (z := 1) hr (by omega) (by omega) hn
theorem drifts_is (N : Nat) (hN : 10004 ≤ N) {A : Nat → Nat} {m : Nat} {h : hS} (M : MO A m h) (G : Nat → Nat → Int32) {d : Int} (hd : -500 ≤ d ∧ d ≤ 500) (hw : ∀ k, 2 ≤ k → k < 10003 → 0 ≤ zi (G (A 4)) k) (hs : zSum (dlist (zi (G (A 4))) 0 10001 0) ≤ 1000000) (hv : -2000000000 ≤ zVal (zi (G (A 4))) (-5000 - d) ∧ zVal (zi (G (A 4))) (-5000 - d) ≤ 2000000000) :
    ∃ G', f_M_drifts N (w_i h G) m (iI d) = some ((), w_i h G') ∧ (∀ q, q ≠ A 4 → q ≠ A 6 → q ≠ m → G' q = G q) ∧ (∀ k, G' m k = if k = 9 ∧ zWide (dlist (zi (G (A 4))) d 10001 0) = true then 1 else G m k) ∧ ∀ k, k < 10003 → zi (G' (A 4)) k = zDrift (zi (G (A 4))) d k := by
  have m4 : (4, 50, 10003) ∈ mrows := by decide
  have m6 : (6, 50, 10003) ∈ mrows := by decide
  have n46 : A 4 ≠ A 6 := M.nn m4 m6 (by decide)
  have n4m : A 4 ≠ m := M.ne m4 (by decide)
  have n6m : A 6 ≠ m := M.ne m6 (by decide)
  obtain ⟨O, hO⟩ : ∃ O, O = upto (G (A 6)) (G (A 4)) 10003 := ⟨_, rfl⟩
  have hOk : ∀ k, k < 10003 → zi O k = zi (G (A 4)) k := fun k hk => by rw [hO]; simp [zi, upto, hk]
  unfold f_M_drifts
  rw [gR_at (M.wi G) m6, gR_at (M.wi G) m4]
  simp only [nn]
  rw [copyTo_is N (by omega) ((M.wi G).ro m6) ((M.wi G).ro m4) (Ne.symm n46) (by omega), s_w_wi, h_i_wi, ← hO]
  simp only [cl]
  rw [gR_at (M.wi _) m4, gR_at (M.wi _) m6]
  simp only [nn]
  rw [show (-5000 : Int32) = iI (-5000) from rfl, iI_sub, valueAt_is N (by omega) ((M.wi _).ro m6) (by omega) (by omega), h_i_wi, show va_up G (A 6) O (A 6) = O by simp [va_up], zVal_congr hOk]
  simp only []
  rw [lI_i, uI_1 ((M.wi _).ro m4) (by omega) (by omega), s_i_wi, show va_up G (A 6) O (A 4) = G (A 4) by simp [va_up, n46]]
  obtain ⟨F, hF⟩ : ∃ F, F = upd (G (A 4)) 1 (iI (zVal (zi (G (A 4))) (-5000 - d))) := ⟨_, rfl⟩
  rw [← hF]
  have hz := drifts_1 N (by omega) M (d := d) (by omega) (va_up G (A 6) O) F 10001 N 0 (by omega) (by omega)
  rw [zer_0, show va_up G (A 6) O (A 6) = O by simp [va_up], show iI ((0 : Nat) : Int) = (0 : Int32) from rfl] at hz
  obtain ⟨L, hL⟩ : ∃ L, L = dlist (zi (G (A 4))) d 10001 0 := ⟨_, rfl⟩
  have hLn : ∀ e ∈ L, 0 ≤ e.2 := by rw [hL]; exact dlist_nonneg 10001 0 (by omega) hw
  have hLs : zSum L ≤ 1000000 := by rw [hL, zSum_dlist_le]; exact hs
  have hLc : ∀ j : Nat, zCo L j = if (2 : Int) ≤ j ∧ (j : Int) ≤ 10002 ∧ ((0 : Nat) : Int) ≤ (j : Int) - 2 - d ∧ (j : Int) - 2 - d < 10001 then zi (G (A 4)) ((j : Int) - d).toNat else 0 := fun j => by rw [hL]; exact zCo_dlist _ _ _ _ _ (by omega)
  rw [dlist_congr hOk 10001 0 (by omega), ← hL] at hz
  rw [← hL]
  clear hL hs
  refine ⟨_, hz, fun q h1 h2 h3 => ?_, fun k => ?_, fun k hk => ?_⟩
  · rw [aGs_o h1 h3]; simp [va_up, h1, h2]
  · rw [aGs_m n4m]; simp [va_up, Ne.symm n4m, Ne.symm n6m]
  · have hz0 : ∀ j, 2 ≤ j → j < 10003 → zi (zer F 10001) j = 0 := fun j h1 h2 => by
      have h3 : 2 ≤ j ∧ j < 2 + 10001 := by omega
      unfold zi zer
      rw [if_pos h3]
      rfl
    have hrow : ∀ j, 2 ≤ j → j < 10003 → 0 ≤ zi (va_up (va_up G (A 6) O) (A 4) (zer F 10001) (A 4)) j ∧ zi (va_up (va_up G (A 6) O) (A 4) (zer F 10001) (A 4)) j + zSum L ≤ 2000000 := fun j h1 h2 => by
      rw [show va_up (va_up G (A 6) O) (A 4) (zer F 10001) (A 4) = zer F 10001 by simp [va_up], hz0 j h1 h2]
      omega
    rw [aGs_row n4m _ _ hLn hLs hrow k, hLc, show va_up (va_up G (A 6) O) (A 4) (zer F 10001) (A 4) = zer F 10001 by simp [va_up]]
    unfold zDrift
    by_cases k0 : k = 0
    · subst k0
      rw [if_pos rfl, if_neg (by omega)]
      have h3 : ¬ (2 ≤ 0 ∧ 0 < 2 + 10001) := by omega
      unfold zi zer
      rw [if_neg h3, hF]
      simp [upd]
    · by_cases k1 : k = 1
      · subst k1
        rw [if_neg (by omega), if_pos rfl, if_neg (by omega)]
        have h3 : ¬ (2 ≤ 1 ∧ 1 < 2 + 10001) := by omega
        have := zi_iI (x := F 1) (z := zVal (zi (G (A 4))) (-5000 - d)) (by rw [hF]; simp [upd]) (by omega) (by omega)
        unfold zi zer
        rw [if_neg h3, this]
        unfold zi
        omega
      · rw [if_neg k0, if_neg k1, hz0 k (by omega) hk]
        by_cases h2 : 2 ≤ (k : Int) - d ∧ (k : Int) - d ≤ 10002
        · rw [if_pos h2, if_pos (by omega)]; omega
        · rw [if_neg h2, if_neg (by omega)]; omega
