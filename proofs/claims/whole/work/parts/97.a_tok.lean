/-! TEXTS: tokens, numbers, clauses, as both sides read them. B i: the i-th byte (0 to 255), n of them -/
def zbl (c : Int) : Bool := decide (c = 32 ∨ c = 10)
def zkd (c : Int) : Int := if 97 ≤ c ∧ c ≤ 122 then 1 else if 48 ≤ c ∧ c ≤ 57 then 2 else if c = 59 ∨ c = 45 then 3 else 4
/-- blanks are passed -/
def zsk (B : Nat → Int) : Nat → Nat → Nat
  | 0, i => i
  | m + 1, i => if zbl (B i) = true then zsk B m (i + 1) else i
/-- the longest row of one kind -/
def zrn (B : Nat → Int) (k : Int) : Nat → Nat → Nat
  | 0, i => i
  | m + 1, i => if zkd (B i) = k then zrn B k m (i + 1) else i
/-- a token from the place a on (no blank stands there): its kind (0: the end), its first byte, the place behind it -/
def zTk (B : Nat → Int) (n a : Nat) : Int × Nat × Nat := if n ≤ a then (0, a, a) else (zkd (B a), a, if zkd (B a) = 1 ∨ zkd (B a) = 2 then zrn B (zkd (B a)) (n - (a + 1)) (a + 1) else a + 1)
def zTok (B : Nat → Int) (n e : Nat) : Int × Nat × Nat := zTk B n (zsk B (n - e) e)
theorem zkd_rng (c : Int) : 1 ≤ zkd c ∧ zkd c ≤ 4 := by
  unfold zkd
  repeat' split
  all_goals omega
theorem zsk_rng (B : Nat → Int) : ∀ m i, i ≤ zsk B m i ∧ zsk B m i ≤ i + m := by
  intro m
  induction m with
  | zero => intro i; rw [zsk]; omega
  | succ m ih =>
    intro i
    rw [zsk]
    split
    · have := ih (i + 1); omega
    · omega
theorem zrn_rng (B : Nat → Int) (k : Int) : ∀ m i, i ≤ zrn B k m i ∧ zrn B k m i ≤ i + m := by
  intro m
  induction m with
  | zero => intro i; rw [zrn]; omega
  | succ m ih =>
    intro i
    rw [zrn]
    split
    · have := ih (i + 1); omega
    · omega
theorem zrn_all (B : Nat → Int) (k : Int) : ∀ m i j, i ≤ j → j < zrn B k m i → zkd (B j) = k := by
  intro m
  induction m with
  | zero => intro i j h1 h2; rw [zrn] at h2; omega
  | succ m ih =>
    intro i j h1 h2
    rw [zrn] at h2
    by_cases e : zkd (B i) = k
    · rw [if_pos e] at h2
      by_cases e2 : j = i
      · rw [e2]; exact e
      · exact ih (i + 1) j (by omega) h2
    · rw [if_neg e] at h2; omega
/-- what a token is -/
theorem zTok_rng {B : Nat → Int} {n e : Nat} (he : e ≤ n) : (e ≤ (zTok B n e).2.1 ∧ (zTok B n e).2.1 ≤ (zTok B n e).2.2 ∧ (zTok B n e).2.2 ≤ n) ∧ (0 ≤ (zTok B n e).1 ∧ (zTok B n e).1 ≤ 4) ∧ ((zTok B n e).1 ≠ 0 → (zTok B n e).2.1 < (zTok B n e).2.2 ∧ (zTok B n e).2.1 < n ∧ (zTok B n e).1 = zkd (B (zTok B n e).2.1)) := by
  have h1 := zsk_rng B (n - e) e
  unfold zTok zTk
  by_cases h : n ≤ zsk B (n - e) e
  · rw [if_pos h]
    simp only []
    exact ⟨⟨h1.1, Nat.le_refl _, by omega⟩, by omega, fun q => absurd rfl q⟩
  · rw [if_neg h]
    simp only []
    have h2 := zkd_rng (B (zsk B (n - e) e))
    by_cases q : zkd (B (zsk B (n - e) e)) = 1 ∨ zkd (B (zsk B (n - e) e)) = 2
    · rw [if_pos q]
      have h3 := zrn_rng B (zkd (B (zsk B (n - e) e))) (n - (zsk B (n - e) e + 1)) (zsk B (n - e) e + 1)
      exact ⟨⟨h1.1, by omega, by omega⟩, by omega, fun _ => ⟨by omega, by omega, trivial⟩⟩
    · rw [if_neg q]
      exact ⟨⟨h1.1, by omega, by omega⟩, by omega, fun _ => ⟨by omega, by omega, trivial⟩⟩
theorem zTok_all {B : Nat → Int} {n e : Nat} (h : (zTok B n e).1 = 1 ∨ (zTok B n e).1 = 2) : ∀ j, (zTok B n e).2.1 ≤ j → j < (zTok B n e).2.2 → zkd (B j) = (zTok B n e).1 := by
  revert h
  unfold zTok zTk
  by_cases h : n ≤ zsk B (n - e) e
  · rw [if_pos h]
    simp only []
    intro q; omega
  · rw [if_neg h]
    simp only []
    intro q j h1 h2
    rw [if_pos q] at h2
    by_cases e2 : j = zsk B (n - e) e
    · rw [e2]
    · exact zrn_all B _ _ _ j (by omega) h2
/-- the bytes of a token -/
def zBy (B : Nat → Int) : Nat → Nat → List Int
  | 0, _ => []
  | m + 1, a => B a :: zBy B m (a + 1)
theorem zBy_len (B : Nat → Int) : ∀ m a, (zBy B m a).length = m := by
  intro m
  induction m with
  | zero => intro a; rfl
  | succ m ih => intro a; rw [zBy, List.length_cons, ih]
theorem zBy_at (B : Nat → Int) : ∀ m a i, (hi : i < (zBy B m a).length) → (zBy B m a)[i] = B (a + i) := by
  intro m
  induction m with
  | zero => intro a i hi; simp [zBy] at hi
  | succ m ih =>
    intro a i hi
    cases i with
    | zero => rfl
    | succ i =>
      have := ih (a + 1) i (by simp [zBy] at hi; omega)
      show (zBy B m (a + 1))[i]'_ = _
      rw [this]; congr 1; omega
/-- which word: the first kind from k on whose word it is; -1 -/
def zWk (B : Nat → Int) (a s : Nat) : Nat → Nat → Int
  | 0, _ => -1
  | m + 1, k => if zBy B (s - a) a = zWord k then (k : Int) else zWk B a s m (k + 1)
def zKd (B : Nat → Int) (t : Int × Nat × Nat) : Int := if t.1 = 1 then zWk B t.2.1 t.2.2 9 0 else -1
theorem zWk_rng (B : Nat → Int) (a s : Nat) : ∀ m k, zWk B a s m k = -1 ∨ ((k : Int) ≤ zWk B a s m k ∧ zWk B a s m k < k + m) := by
  intro m
  induction m with
  | zero => intro k; exact Or.inl rfl
  | succ m ih =>
    intro k
    rw [zWk]
    split
    · exact Or.inr ⟨by omega, by omega⟩
    · rcases ih (k + 1) with h | h
      · exact Or.inl h
      · exact Or.inr ⟨by omega, by omega⟩
theorem zKd_rng (B : Nat → Int) (t : Int × Nat × Nat) : zKd B t = -1 ∨ (0 ≤ zKd B t ∧ zKd B t ≤ 8) := by
  unfold zKd
  split
  · rcases zWk_rng B t.2.1 t.2.2 9 0 with h | h
    · exact Or.inl h
    · exact Or.inr ⟨by omega, by omega⟩
  · exact Or.inl rfl
/-- digits -/
def zdg (B : Nat → Int) : Nat → Nat → Int → Int
  | 0, _, v => v
  | m + 1, i, v => zdg B m (i + 1) (10 * v + B i - 48)
/-- a number's value; more than three digits are above all -/
def zNv (B : Nat → Int) (t : Int × Nat × Nat) : Int := if t.2.2 - t.2.1 ≤ 3 then zdg B (t.2.2 - t.2.1) t.2.1 0 else 1000000000
/-- a sign below zero stands ahead of the number -/
def zBe (B : Nat → Int) (n : Nat) (bl : Bool) (e : Nat) : Bool := bl && decide ((zTok B n e).1 = 3 ∧ B (zTok B n e).2.1 = 45)
def zNt (B : Nat → Int) (n : Nat) (bl : Bool) (e : Nat) : Int × Nat × Nat := if zBe B n bl e = true then zTok B n (zTok B n e).2.2 else zTok B n e
/-- the fault of a number; the number -/
def zNf (B : Nat → Int) (n : Nat) (bl : Bool) (hi : Int) (e : Nat) : Int := if (zNt B n bl e).1 = 2 then (if zNv B (zNt B n bl e) ≤ hi then 0 else 2) else 1
def zNw (B : Nat → Int) (n : Nat) (bl : Bool) (hi : Int) (e : Nat) : Int := if zNf B n bl hi e = 0 then (if zBe B n bl e = true then -zNv B (zNt B n bl e) else zNv B (zNt B n bl e)) else 0
/-- the first number of a step of the kind kd: its fault, the place of it, what it is, the place behind it -/
def zFf (B : Nat → Int) (n : Nat) (kd cost : Int) (e : Nat) : Int := if zNum kd = 0 then 0 else if zNf B n (decide (loF kd < 0)) (hiF kd) e = 0 then (if kd = 8 ∧ zNw B n (decide (loF kd < 0)) (hiF kd) e = cost then 3 else 0) else zNf B n (decide (loF kd < 0)) (hiF kd) e
def zFw (B : Nat → Int) (n : Nat) (kd : Int) (e : Nat) : Int := if zNum kd = 0 then 0 else zNw B n (decide (loF kd < 0)) (hiF kd) e
def zFe (B : Nat → Int) (n : Nat) (kd : Int) (e : Nat) : Nat := if zNum kd = 0 then e else (zNt B n (decide (loF kd < 0)) e).2.2
def zFa (B : Nat → Int) (n : Nat) (kd : Int) (e : Nat) : Nat := (zNt B n (decide (loF kd < 0)) e).2.1
/-- the second number -/
def zSf (B : Nat → Int) (n : Nat) (kd : Int) (e : Nat) : Int := if zNum kd = 2 then zNf B n false 99 e else 0
def zSw (B : Nat → Int) (n : Nat) (kd : Int) (e : Nat) : Int := if zNum kd = 2 then zNw B n false 99 e else 0
def zSe (B : Nat → Int) (n : Nat) (kd : Int) (e : Nat) : Nat := if zNum kd = 2 then (zNt B n false e).2.2 else e
def zSa (B : Nat → Int) (n : Nat) (e : Nat) : Nat := (zNt B n false e).2.1
/-- the sign ; -/
def zEnd (B : Nat → Int) (n e : Nat) : Bool := decide ((zTok B n e).1 = 3 ∧ B (zTok B n e).2.1 = 59)
/-- behind its word: a clause's fault, the place of the fault, the place behind it -/
def zCf (B : Nat → Int) (n : Nat) (kd cost : Int) (e : Nat) : Int := if zFf B n kd cost e = 0 then (if zSf B n kd (zFe B n kd e) = 0 then (if zEnd B n (zSe B n kd (zFe B n kd e)) = true then 0 else 1) else zSf B n kd (zFe B n kd e)) else zFf B n kd cost e
def zCp (B : Nat → Int) (n : Nat) (kd cost : Int) (e : Nat) : Nat := if zFf B n kd cost e = 0 then (if zSf B n kd (zFe B n kd e) = 0 then (zTok B n (zSe B n kd (zFe B n kd e))).2.1 else zSa B n (zFe B n kd e)) else zFa B n kd e
def zCe (B : Nat → Int) (n : Nat) (kd : Int) (e : Nat) : Nat := (zTok B n (zSe B n kd (zFe B n kd e))).2.2
/-- clauses: the word's place, kind, numbers; then the fault (0: none) and its place -/
def zRd (B : Nat → Int) (n : Nat) (cost : Int) : Nat → Nat → Nat → List (Nat × Int × Int × Int) × Int × Nat
  | 0, _, _ => ([], 0, 0)
  | m + 1, e, k => if (zTok B n e).1 = 0 then ([], 0, 0) else if zKd B (zTok B n e) = -1 then ([], 1, (zTok B n e).2.1) else if 40 ≤ k then ([], 3, (zTok B n e).2.1) else if zCf B n (zKd B (zTok B n e)) cost (zTok B n e).2.2 = 0 then
      (((zTok B n e).2.1, zKd B (zTok B n e), zFw B n (zKd B (zTok B n e)) (zTok B n e).2.2, zSw B n (zKd B (zTok B n e)) (zFe B n (zKd B (zTok B n e)) (zTok B n e).2.2)) :: (zRd B n cost m (zCe B n (zKd B (zTok B n e)) (zTok B n e).2.2) (k + 1)).1, (zRd B n cost m (zCe B n (zKd B (zTok B n e)) (zTok B n e).2.2) (k + 1)).2)
      else ([], zCf B n (zKd B (zTok B n e)) cost (zTok B n e).2.2, zCp B n (zKd B (zTok B n e)) cost (zTok B n e).2.2)
/-- a text -/
def zText (B : Nat → Int) (n : Nat) (cost : Int) : List (Nat × Int × Int × Int) × Int × Nat := zRd B n cost 41 0 0
theorem zNt_rng {B : Nat → Int} {n e : Nat} (bl : Bool) (he : e ≤ n) : e ≤ (zNt B n bl e).2.1 ∧ (zNt B n bl e).2.1 ≤ (zNt B n bl e).2.2 ∧ (zNt B n bl e).2.2 ≤ n ∧ (0 ≤ (zNt B n bl e).1 ∧ (zNt B n bl e).1 ≤ 4) ∧ ((zNt B n bl e).1 ≠ 0 → (zNt B n bl e).2.1 < (zNt B n bl e).2.2 ∧ (zNt B n bl e).2.1 < n) ∧ ((zNt B n bl e).1 = 2 → ∀ j, (zNt B n bl e).2.1 ≤ j → j < (zNt B n bl e).2.2 → 48 ≤ B j ∧ B j ≤ 57) := by
  have dg : ∀ c : Int, zkd c = 2 → 48 ≤ c ∧ c ≤ 57 := fun c h => by
    unfold zkd at h
    split at h
    · omega
    · split at h
      · assumption
      · split at h <;> omega
  have h1 := zTok_rng (B := B) he
  unfold zNt
  split
  · have h2 := zTok_rng (B := B) h1.1.2.2
    exact ⟨by omega, h2.1.2.1, h2.1.2.2, h2.2.1, fun q => ⟨(h2.2.2 q).1, (h2.2.2 q).2.1⟩, fun q j j1 j2 => dg _ ((zTok_all (Or.inr q) j j1 j2).trans q)⟩
  · exact ⟨h1.1.1, h1.1.2.1, h1.1.2.2, h1.2.1, fun q => ⟨(h1.2.2 q).1, (h1.2.2 q).2.1⟩, fun q j j1 j2 => dg _ ((zTok_all (Or.inr q) j j1 j2).trans q)⟩
theorem zFe_rng {B : Nat → Int} {n e : Nat} (kd : Int) (he : e ≤ n) : e ≤ zFe B n kd e ∧ zFe B n kd e ≤ n := by
  unfold zFe
  split
  · omega
  · have := zNt_rng (B := B) (decide (loF kd < 0)) he; omega
theorem zSe_rng {B : Nat → Int} {n e : Nat} (kd : Int) (he : e ≤ n) : e ≤ zSe B n kd e ∧ zSe B n kd e ≤ n := by
  unfold zSe
  split
  · have := zNt_rng (B := B) false he; omega
  · omega
theorem zCe_rng {B : Nat → Int} {n e : Nat} (kd : Int) (he : e ≤ n) : e ≤ zCe B n kd e ∧ zCe B n kd e ≤ n := by
  have h1 := zFe_rng (B := B) kd he
  have h2 := zSe_rng (B := B) kd h1.2
  have h3 := zTok_rng (B := B) h2.2
  unfold zCe
  omega
/-- the value of at most three digits -/
theorem zdg_rng (B : Nat → Int) : ∀ m i v, (∀ j, i ≤ j → j < i + m → 48 ≤ B j ∧ B j ≤ 57) → 0 ≤ v → 0 ≤ zdg B m i v ∧ zdg B m i v + 1 ≤ 10 ^ m * (v + 1) := by
  intro m
  induction m with
  | zero => intro i v _ hv; rw [zdg]; omega
  | succ m ih =>
    intro i v h hv
    rw [zdg]
    have h0 := h i (by omega) (by omega)
    obtain ⟨h1, h2⟩ := ih (i + 1) (10 * v + B i - 48) (fun j j1 j2 => h j (by omega) (by omega)) (by omega)
    refine ⟨h1, Int.le_trans h2 ?_⟩
    have p : (0 : Int) ≤ 10 ^ m := Int.le_of_lt (Int.pow_pos (by omega))
    have : (10 : Int) ^ (m + 1) * (v + 1) = 10 ^ m * (10 * (v + 1)) := by rw [Int.pow_succ, Int.mul_assoc]
    rw [this]
    exact Int.mul_le_mul_of_nonneg_left (by omega) p
theorem zNv_rng {B : Nat → Int} {t : Int × Nat × Nat} (ht : t.2.1 ≤ t.2.2) (h : ∀ j, t.2.1 ≤ j → j < t.2.2 → 48 ≤ B j ∧ B j ≤ 57) : 0 ≤ zNv B t ∧ zNv B t ≤ 1000000000 := by
  unfold zNv
  split
  · rename_i q
    obtain ⟨h1, h2⟩ := zdg_rng B (t.2.2 - t.2.1) t.2.1 0 (fun j j1 j2 => h j j1 (by omega)) (by omega)
    refine ⟨h1, ?_⟩
    rcases (show t.2.2 - t.2.1 = 0 ∨ t.2.2 - t.2.1 = 1 ∨ t.2.2 - t.2.1 = 2 ∨ t.2.2 - t.2.1 = 3 by omega) with e | e | e | e <;> rw [e] at h2 ⊢ <;> omega
  · omega
