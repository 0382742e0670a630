/-! BITS: a row of longs as a row of bits, and the row of kinks that it tells -/
def wb (v : Int64) (j : Nat) : Bool := v.toBitVec.getLsbD j
theorem sh_63 : ∀ j : Fin 64, ((iI (j.val : Int)).toInt64.toUInt64 &&& Int64.toUInt64 63) = UInt64.ofNat j.val := by decide +kernel
theorem sh_63' : ∀ j : Fin 64, ((iI (j.val : Int)).toInt64 &&& 63) = Int64.ofNat j.val := by decide +kernel
theorem wb_test (v : Int64) {j : Nat} (hj : j < 64) : (((v.toUInt64 >>> ((iI j).toInt64.toUInt64 &&& Int64.toUInt64 63)).toInt64) &&& (1 : Int64)) = 1 ↔ wb v j = true := by
  rw [sh_63 ⟨j, hj⟩]
  have e : ((v.toUInt64 >>> UInt64.ofNat j).toInt64 &&& (1 : Int64)).toBitVec = (v.toBitVec >>> j) &&& 1#64 := by
    show (v.toBitVec >>> (BitVec.ofNat 64 j % 64#64)) &&& 1#64 = _
    rw [show v.toBitVec >>> (BitVec.ofNat 64 j % 64#64) = v.toBitVec >>> (BitVec.ofNat 64 j % 64#64).toNat from rfl]
    rw [BitVec.toNat_umod, BitVec.toNat_ofNat, BitVec.toNat_ofNat, show j % 2 ^ 64 % (64 % 2 ^ 64) = j by rw [show (64 : Nat) % 2 ^ 64 = 64 from rfl, show (2 : Nat) ^ 64 = 18446744073709551616 from rfl]; omega]
  rw [← Int64.toBitVec_inj, e]
  show (v.toBitVec >>> j) &&& 1#64 = 1#64 ↔ _
  unfold wb
  constructor
  · intro q
    have := congrArg (fun z => z.getLsbD 0) q
    simpa using this
  · intro q
    apply BitVec.eq_of_getLsbD_eq
    intro i hi
    by_cases h0 : i = 0
    · subst h0; simpa using q
    · simp [h0]
theorem lg_eq0 (a b : Int64) : lg_cmp a b = 0 ↔ a = b := by
  unfold lg_cmp
  by_cases h1 : a > b
  · rw [if_pos h1]
    exact ⟨fun q => absurd q (by decide), fun q => absurd h1 (by rw [q]; exact fun z => Int64.lt_irrefl z)⟩
  · rw [if_neg h1]
    by_cases h2 : a = b
    · rw [if_pos h2]; exact ⟨fun _ => h2, fun _ => rfl⟩
    · rw [if_neg h2]; exact ⟨fun q => absurd q (by decide), fun q => absurd q h2⟩
theorem wb_0 (j : Nat) : wb 0 j = false := by unfold wb; simp
theorem wb_or (v : Int64) {k j : Nat} (hk : k < 64) (hj : j < 64) : wb (v ||| ((1 : Int64) <<< ((iI k).toInt64 &&& 63))) j = (wb v j || decide (j = k)) := by
  rw [sh_63' ⟨k, hk⟩]
  unfold wb
  have e : (v ||| ((1 : Int64) <<< Int64.ofNat k)).toBitVec = v.toBitVec ||| ((1#64) <<< k) := by
    show v.toBitVec ||| ((1#64) <<< (BitVec.smod (Int64.ofNat k).toBitVec 64)) = _
    rw [show ((1#64) <<< (BitVec.smod (Int64.ofNat k).toBitVec 64)) = ((1#64) <<< (BitVec.smod (Int64.ofNat k).toBitVec 64).toNat) from rfl]
    have : ∀ k : Fin 64, (BitVec.smod (Int64.ofNat k.val).toBitVec 64).toNat = k.val := by decide +kernel
    rw [this ⟨k, hk⟩]
  rw [e, BitVec.getLsbD_or, BitVec.getLsbD_shiftLeft, BitVec.getLsbD_one]
  congr 1
  by_cases h : j = k
  · subst h; simp [hj]
  · by_cases h2 : j < k
    · simp [h2, h]
    · simp [h2, h]; omega
/-- the bits of n longs -/
def bF (F : Nat → Int64) (n i : Nat) : Bool := decide (i < 64 * n) && wb (F (i / 64)) (i % 64)
/-- n bits from i on are read, at the place p, behind L -/
def dcd (B : Nat → Bool) : Nat → Nat → Int → List (Int × Int) → Int × List (Int × Int)
  | 0, _, p, L => (p, L)
  | n + 1, i, p, L => if B i = true then dcd B n (i + 1) p (app L p 1) else dcd B n (i + 1) (p + 1) L
theorem dcd_add (B : Nat → Bool) (c : Nat) : ∀ (a i : Nat) (p : Int) (L : List (Int × Int)), dcd B (a + c) i p L = dcd B c (i + a) (dcd B a i p L).1 (dcd B a i p L).2 := by
  intro a
  induction a with
  | zero => intro i p L; simp [dcd]
  | succ a ih =>
    intro i p L
    rw [show a + 1 + c = (a + c) + 1 by omega, dcd, dcd]
    split
    · rw [ih, show i + 1 + a = i + (a + 1) by omega]
    · rw [ih, show i + 1 + a = i + (a + 1) by omega]
theorem dcd_0 (B : Nat → Bool) : ∀ (n i : Nat) (p : Int) (L : List (Int × Int)), (∀ j, i ≤ j → j < i + n → B j = false) → dcd B n i p L = (p + n, L) := by
  intro n
  induction n with
  | zero => intro i p L _; simp [dcd]
  | succ n ih =>
    intro i p L h
    rw [dcd, if_neg (by rw [h i (by omega) (by omega)]; simp), ih _ _ _ (fun j h1 h2 => h j (by omega) (by omega))]
    congr 1
    omega
theorem app_app (L : List (Int × Int)) (p : Int) {a c : Int} (ha : 1 ≤ a) (hc : 1 ≤ c) : app (app L p a) p c = app L p (a + c) := by
  unfold app
  rw [if_neg (by omega), if_neg (by omega), if_neg (by omega)]
  rcases nil_or_snoc L with rfl | ⟨K, e, rfl⟩
  · simp
  · simp only [List.getLast?_concat, List.dropLast_concat]
    by_cases h : e.1 = p
    · simp only [h, if_true, List.getLast?_concat, List.dropLast_concat]
      rw [Int.add_assoc]
    · simp only [h, if_false, List.getLast?_concat, List.dropLast_concat, if_true]
theorem dcd_1 (B : Nat → Bool) : ∀ (n i : Nat) (p : Int) (L : List (Int × Int)), 1 ≤ n → (∀ j, i ≤ j → j < i + n → B j = true) → dcd B n i p L = (p, app L p n) := by
  intro n
  induction n with
  | zero => intro i p L h0 _; omega
  | succ n ih =>
    intro i p L _ h
    rw [dcd, if_pos (h i (by omega) (by omega))]
    by_cases h0 : n = 0
    · subst h0; simp [dcd]
    · rw [ih _ _ _ (by omega) (fun j h1 h2 => h j (by omega) (by omega)), app_app _ _ (by omega) (by omega)]
      congr 2
      omega
/-- the bits from i on tell the kinks K, from the place p on -/
def ENC (B : Nat → Bool) : Nat → Int → List (Int × Int) → Prop
  | i, _, [] => ∀ j, i ≤ j → B j = false
  | i, p, e :: t => p ≤ e.1 ∧ 1 ≤ e.2 ∧ (∀ j, i ≤ j → j < i + (e.1 - p).toNat → B j = false) ∧ (∀ j, i + (e.1 - p).toNat ≤ j → j < i + (e.1 - p).toNat + e.2.toNat → B j = true) ∧ ENC B (i + (e.1 - p).toNat + e.2.toNat) e.1 t
/-- how many bits they are -/
def nb : Int → List (Int × Int) → Nat
  | _, [] => 0
  | p, e :: t => (e.1 - p).toNat + e.2.toNat + nb e.1 t
theorem dcd_enc (B : Nat → Bool) : ∀ (K : List (Int × Int)) (n i : Nat) (p : Int) (L : List (Int × Int)), ENC B i p K → nb p K ≤ n → (dcd B n i p L).2 = apps L K := by
  intro K
  induction K with
  | nil => intro n i p L h _; rw [dcd_0 B n i p L (fun j h1 _ => h j h1)]; rfl
  | cons e t ih =>
    intro n i p L ⟨h1, h2, h3, h4, h5⟩ hn
    rw [nb] at hn
    obtain ⟨q, hq⟩ : ∃ q, n = (e.1 - p).toNat + (e.2.toNat + q) := ⟨n - (e.1 - p).toNat - e.2.toNat, by omega⟩
    rw [hq, dcd_add, dcd_0 B _ _ _ _ h3, dcd_add, dcd_1 B _ _ _ _ (by omega) h4]
    simp only []
    rw [show p + ((e.1 - p).toNat : Int) = e.1 by omega, ih _ _ _ _ h5 (by omega), apps, show ((e.2.toNat : Nat) : Int) = e.2 by omega]
theorem enc_nb {B : Nat → Bool} {M : Nat} (hM : ∀ j, M ≤ j → B j = false) : ∀ (K : List (Int × Int)) (i : Nat) (p : Int), ENC B i p K → i ≤ M → i + nb p K ≤ M := by
  intro K
  induction K with
  | nil => intro i p _ h; simp [nb]; exact h
  | cons e t ih =>
    intro i p ⟨h1, h2, h3, h4, h5⟩ hi
    have hlt : i + (e.1 - p).toNat + e.2.toNat ≤ M := by
      rcases Nat.lt_or_ge M (i + (e.1 - p).toNat + e.2.toNat) with q | q
      · exfalso
        have hw : 1 ≤ e.2.toNat := by omega
        have := h4 (i + (e.1 - p).toNat + e.2.toNat - 1) (by omega) (by omega)
        rw [hM _ (by omega)] at this
        cases this
      · exact q
    have := ih _ _ h5 hlt
    rw [nb]
    omega
theorem apps_nil {K : List (Int × Int)} (h : srt K) : apps [] K = K := by
  have hnn : ∀ e ∈ K, 0 ≤ e.2 := fun e he => by have := srt_pos h e he; omega
  have hris : ∀ {K : List (Int × Int)}, srt K → ris K := by
    intro K
    induction K with
    | nil => intro _; trivial
    | cons a t ih => intro h; exact ⟨fun q hq => Int.le_of_lt (h.2.1 q hq), ih h.2.2⟩
  refine srt_ext (apps_srt K [] trivial (hris h) (fun e he => by cases he)) h (fun p => ?_)
  unfold wt
  rw [apps_F _ _ _ hnn]
  simp [zF]
/-- the same bits tell the same kinks -/
theorem enc_un {B : Nat → Bool} {M : Nat} (hM : ∀ j, M ≤ j → B j = false) {K L : List (Int × Int)} {p : Int} (hK : srt K) (hL : srt L) (h1 : ENC B 0 p K) (h2 : ENC B 0 p L) : K = L := by
  have a := dcd_enc B K M 0 p [] h1 (by have := enc_nb hM K 0 p h1 (Nat.zero_le _); omega)
  have b := dcd_enc B L M 0 p [] h2 (by have := enc_nb hM L 0 p h2 (Nat.zero_le _); omega)
  rw [apps_nil hK] at a
  rw [apps_nil hL] at b
  exact a.symm.trans b
theorem bF_end (F : Nat → Int64) (n : Nat) : ∀ j, 64 * n ≤ j → bF F n j = false := fun j hj => by unfold bF; rw [decide_eq_false (by omega)]; rfl
/-- bits that are set: by kinks from i on -/
def SB : Nat → Int → List (Int × Int) → Nat → Prop
  | _, _, [], _ => False
  | i, p, e :: t, j => (i + (e.1 - p).toNat ≤ j ∧ j < i + (e.1 - p).toNat + e.2.toNat) ∨ SB (i + (e.1 - p).toNat + e.2.toNat) e.1 t j
theorem SB_rng : ∀ (K : List (Int × Int)) (i : Nat) (p : Int) (j : Nat), SB i p K j → i ≤ j ∧ j < i + nb p K := by
  intro K
  induction K with
  | nil => intro i p j h; exact h.elim
  | cons e t ih =>
    intro i p j h
    rw [nb]
    rcases h with h | h
    · omega
    · have := ih _ _ _ h; omega
theorem enc_SB {B : Nat → Bool} : ∀ (K : List (Int × Int)) (i : Nat) (p : Int), (∀ j, i ≤ j → (B j = true ↔ SB i p K j)) → (∀ e ∈ K, p ≤ e.1 ∧ 1 ≤ e.2) → srt K → ENC B i p K := by
  intro K
  induction K with
  | nil =>
    intro i p h _ _ j hj
    cases q : B j
    · rfl
    · exact ((h j hj).mp q).elim
  | cons e t ih =>
    intro i p h hp hs
    have he := hp e (List.mem_cons_self ..)
    refine ⟨he.1, he.2, fun j h1 h2 => ?_, fun j h1 h2 => (h j (by omega)).mpr (Or.inl ⟨h1, h2⟩), ih _ _ (fun j hj => ?_) (fun q hq => ⟨Int.le_of_lt (hs.2.1 q hq), (hp q (List.mem_cons_of_mem _ hq)).2⟩) hs.2.2⟩
    · cases q : B j
      · rfl
      · exfalso
        rcases (h j h1).mp q with z | z
        · omega
        · have := (SB_rng _ _ _ _ z).1; omega
    · rw [h j (by omega)]
      constructor
      · intro q
        rcases q with q | q
        · omega
        · exact q
      · intro q; exact Or.inr q
