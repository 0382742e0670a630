/-! THE CLASS: rows of kinks -/
theorem iI_shr13 {p w : Int} (hp : -100000 ≤ p ∧ p ≤ 100000) (hw : 0 ≤ w ∧ w < 8192) : iI (p * 8192 + w) >>> ((13 : Int32) &&& 31) = iI p := by
  apply Int32.toInt_inj.mp
  rw [iI_toInt (z := p) (by omega) (by omega)]
  show (BitVec.sshiftRight' (iI (p * 8192 + w)).toBitVec (BitVec.smod ((13 : Int32) &&& 31).toBitVec 32)).toInt = p
  rw [BitVec.sshiftRight_eq', show (BitVec.smod ((13 : Int32) &&& 31).toBitVec 32).toNat = 13 from by decide, BitVec.toInt_sshiftRight]
  show (iI (p * 8192 + w)).toInt >>> 13 = p
  rw [iI_toInt (by omega) (by omega), Int.shiftRight_eq_div_pow, show ((2 ^ 13 : Nat) : Int) = 8192 from rfl]
  omega
theorem iI_and13 {p w : Int} (hw : 0 ≤ w ∧ w < 8192) : iI (p * 8192 + w) &&& (8191 : Int32) = iI w := by
  apply Int32.toBitVec_inj.mp
  show (BitVec.ofInt 32 (p * 8192 + w)) &&& (8191#32) = BitVec.ofInt 32 w
  apply BitVec.eq_of_toNat_eq
  rw [BitVec.toNat_and, BitVec.toNat_ofInt, BitVec.toNat_ofInt, show (8191#32).toNat = 2 ^ 13 - 1 from rfl, Nat.and_two_pow_sub_one_eq_mod]
  simp only [Nat.reducePow]
  omega
theorem iI_shl13 (p : Int) : iI p <<< ((13 : Int32) &&& 31) = iI (p * 8192) := by
  apply Int32.toBitVec_inj.mp
  show (BitVec.ofInt 32 p) <<< (BitVec.smod ((13 : Int32) &&& 31).toBitVec 32) = BitVec.ofInt 32 (p * 8192)
  rw [show BitVec.smod ((13 : Int32) &&& 31).toBitVec 32 = 13#32 from by decide, BitVec.shiftLeft_eq', BitVec.shiftLeft_eq_mul_twoPow, BitVec.ofInt_mul]
  rfl
section
variable {β : Type} {h : hS} {c ci k : Nat}
theorem gI_k {f : Int32 → Option β} (hk : h_k h c = ci + 1) : gI h (some c) ci k f = f (h_i h c k) := by
  show (if h_k h c = ci + 1 then f (h_i h c k) else none) = _
  rw [if_pos hk]
theorem gJ_k {f : Int64 → Option β} (hk : h_k h c = ci + 1) : gJ h (some c) ci k f = f (h_j h c k) := by
  show (if h_k h c = ci + 1 then f (h_j h c k) else none) = _
  rw [if_pos hk]
theorem gR_k {f : Option Nat → Option β} (hk : h_k h c = ci + 1) : gR h (some c) ci k f = f (h_r h c k) := by
  show (if h_k h c = ci + 1 then f (h_r h c k) else none) = _
  rw [if_pos hk]
theorem pI_k {v : Int32} {f : hS → Option β} (hk : h_k h c = ci + 1) : pI h (some c) ci k v f = f (s_i h c k v) := by
  show (if h_k h c = ci + 1 then f (s_i h c k v) else none) = _
  rw [if_pos hk]
theorem pJ_k {v : Int64} {f : hS → Option β} (hk : h_k h c = ci + 1) : pJ h (some c) ci k v f = f (s_j h c k v) := by
  show (if h_k h c = ci + 1 then f (s_j h c k v) else none) = _
  rw [if_pos hk]
theorem pR_k {v : Option Nat} {f : hS → Option β} (hk : h_k h c = ci + 1) : pR h (some c) ci k v f = f (s_r h c k v) := by
  show (if h_k h c = ci + 1 then f (s_r h c k v) else none) = _
  rw [if_pos hk]
theorem cv_k {α : Type} {f : Nat → Option (α × hS)} {K : α → hS → Option β} (hk : h_k h c = ci + 1) : cv h (some c) ci f K = cl (f c) K := by
  show (if h_k h c = ci + 1 then cl (f c) K else none) = _
  rw [if_pos hk]
theorem cl_s {α : Type} {a : α} {g : hS} {K : α → hS → Option β} : cl (some (a, g)) K = K a g := rfl
theorem lnA_i {n : Nat} {f : Int32 → Option β} (hr : ro h c n) : lnA h 50 (some c) f = f (iI n) := by rw [lnA_at hr, nI_iI]
theorem bn_i {α : Type} {v : α} {f : α → Option β} : bn v f = f v := rfl
theorem bz_0 {f : Option β} : bz (0 : Int32) f = f := by show (if (0 : Int32) = 0 ∨ (0 : Int32) = 1 then f else none) = f; rw [if_pos (Or.inl rfl)]
theorem bz_1 {f : Option β} : bz (1 : Int32) f = f := by show (if (1 : Int32) = 0 ∨ (1 : Int32) = 1 then f else none) = f; rw [if_pos (Or.inr rfl)]
end
/-- numbers of a curve that are not too large -/
def cuOk (L : List (Int × Int)) (lf bt : Int) : Prop := (∀ e ∈ L, -20000 ≤ e.1 ∧ e.1 ≤ 20000 ∧ 1 ≤ e.2) ∧ zSum L ≤ 8000 ∧ (0 ≤ lf ∧ lf ≤ 8000) ∧ 0 ≤ bt ∧ bt ≤ 1000000000000
/-- A CURVE at c, of the region l: its kinks, its left, its bottom -/
def CR (ρ : Nat → Nat) (l : Nat) (h : hS) (c : Nat) (L : List (Int × Int)) (lf bt : Int) : Prop := ∃ r, (h_k h c = 4 ∧ ρ c = l ∧ c < h_x h) ∧ (h_r h c 1 = some r ∧ h_k h r = 50 ∧ ρ r = l ∧ r < h_x h ∧ h_n h r ≤ 5001 ∧ L.length ≤ h_n h r) ∧ (h_i h c 0 = iI L.length ∧ h_i h c 2 = iI lf ∧ h_i h c 3 = iI (zSum L) ∧ h_j h c 4 = lI bt) ∧ (∀ i, (hi : i < L.length) → h_i h r i = iI (L[i].1 * 8192 + L[i].2)) ∧ cuOk L lf bt
theorem zSum_mem : ∀ {L : List (Int × Int)}, (∀ e ∈ L, 0 ≤ e.2) → ∀ e ∈ L, e.2 ≤ zSum L := by
  intro L
  induction L with
  | nil => intro _ e he; cases he
  | cons a t ih =>
    intro hn e he
    have h1 := zSum_nn t (fun e he => hn e (List.mem_cons_of_mem _ he))
    have h2 := hn a (List.mem_cons_self ..)
    rw [zSum]
    rcases List.mem_cons.mp he with rfl | he
    · omega
    · have := ih (fun e he => hn e (List.mem_cons_of_mem _ he)) e he
      omega
theorem cuOk.w {L : List (Int × Int)} {lf bt : Int} (k : cuOk L lf bt) {e : Int × Int} (he : e ∈ L) : 1 ≤ e.2 ∧ e.2 ≤ 8000 := ⟨(k.1 e he).2.2, Int.le_trans (zSum_mem (fun e he => by have := (k.1 e he).2.2; omega) e he) k.2.1⟩
theorem cuOk.nn {L : List (Int × Int)} {lf bt : Int} (k : cuOk L lf bt) : 0 ≤ zSum L := zSum_nn L (fun e he => by have := (k.1 e he).2.2; omega)
theorem CR.k {ρ : Nat → Nat} {l : Nat} {h : hS} {c : Nat} {L : List (Int × Int)} {lf bt : Int} (C : CR ρ l h c L lf bt) : h_k h c = 3 + 1 := by obtain ⟨r, q, _⟩ := C; exact q.1
theorem CR.ok {ρ : Nat → Nat} {l : Nat} {h : hS} {c : Nat} {L : List (Int × Int)} {lf bt : Int} (C : CR ρ l h c L lf bt) : cuOk L lf bt := by obtain ⟨r, q, _, _, _, o⟩ := C; exact o
theorem CR.f {ρ : Nat → Nat} {l : Nat} {h : hS} {c : Nat} {L : List (Int × Int)} {lf bt : Int} (C : CR ρ l h c L lf bt) : h_i h c 0 = iI L.length ∧ h_i h c 2 = iI lf ∧ h_i h c 3 = iI (zSum L) ∧ h_j h c 4 = lI bt := by obtain ⟨r, q, _, o, _⟩ := C; exact o
theorem CR.len {ρ : Nat → Nat} {l : Nat} {h : hS} {c : Nat} {L : List (Int × Int)} {lf bt : Int} (C : CR ρ l h c L lf bt) : L.length ≤ 5001 := by obtain ⟨r, q, o, _⟩ := C; omega
section
variable {ρ : Nat → Nat} {l : Nat} {h : hS} {c : Nat} {L : List (Int × Int)} {lf bt : Int}
theorem placeOf_in (N : Nat) (C : CR ρ l h c L lf bt) {i : Nat} (hi : i < L.length) : f_Curve_placeOf N h c (iI i) = some (iI (L[i]).1, h) := by
  have hk := C.k
  have hlen := C.len
  have hw := C.ok.w (List.getElem_mem hi)
  have hp := C.ok.1 _ (List.getElem_mem hi)
  obtain ⟨r, q1, q2, q3, q4, q5⟩ := C
  have hr : ro h r (h_n h r) := ⟨q2.2.1, rfl⟩
  unfold f_Curve_placeOf
  rw [if_neg (show ¬ iI i < (0 : Int32) from fun q => absurd ((iI_lt (b := 0) (by omega) (by omega)).mp q) (by omega)), gI_k hk, q3.1, if_neg (fun q => absurd ((iI_le (by omega) (by omega)).mp q) (by omega)), gR_k hk, q2.1, lnA_i hr, if_neg (fun q => absurd ((iI_le (by omega) (by omega)).mp q) (by omega)), gR_k hk, q2.1, aI_iI hr (by omega) (by omega) (by omega), show ((i : Int)).toNat = i by omega, q4 i hi, iI_shr13 (by omega) (by omega)]
  rfl
theorem weightOf_in (N : Nat) (C : CR ρ l h c L lf bt) {i : Nat} (hi : i < L.length) : f_Curve_weightOf N h c (iI i) = some (iI (L[i]).2, h) := by
  have hk := C.k
  have hlen := C.len
  have hw := C.ok.w (List.getElem_mem hi)
  have hp := C.ok.1 _ (List.getElem_mem hi)
  obtain ⟨r, q1, q2, q3, q4, q5⟩ := C
  have hr : ro h r (h_n h r) := ⟨q2.2.1, rfl⟩
  unfold f_Curve_weightOf
  rw [if_neg (show ¬ iI i < (0 : Int32) from fun q => absurd ((iI_lt (b := 0) (by omega) (by omega)).mp q) (by omega)), gI_k hk, q3.1, if_neg (fun q => absurd ((iI_le (by omega) (by omega)).mp q) (by omega)), gR_k hk, q2.1, lnA_i hr, if_neg (fun q => absurd ((iI_le (by omega) (by omega)).mp q) (by omega)), gR_k hk, q2.1, aI_iI hr (by omega) (by omega) (by omega), show ((i : Int)).toNat = i by omega, q4 i hi, iI_and13 (by omega)]
  rfl
theorem placeOf_0 (N : Nat) (C : CR ρ l h c [] lf bt) : f_Curve_placeOf N h c (0 : Int32) = some (0, h) := by
  have hk := C.k
  have hf := C.f
  unfold f_Curve_placeOf
  rw [if_neg (by decide), gI_k hk, hf.1, if_pos (show iI (([] : List (Int × Int)).length : Int) ≤ (0 : Int32) from by decide)]
  rfl
end
theorem dr_cons {α : Type} {L : List α} {i : Nat} {e : α} {t : List α} (h : L.drop i = e :: t) : ∃ hi : i < L.length, L[i] = e ∧ L.drop (i + 1) = t := by
  have hi : i < L.length := by
    have := congrArg List.length h
    simp at this
    omega
  rw [List.drop_eq_getElem_cons hi] at h
  injection h with h1 h2
  exact ⟨hi, h1, h2⟩
theorem dr_nil {α : Type} {L : List α} {i : Nat} (h : L.drop i = []) : L.length ≤ i := List.drop_eq_nil_iff.mp h
/-- what the kinks add to the bottom at x, if f units of weight still make it fall -/
def kv (x : Int) : Int → List (Int × Int) → Int
  | _, [] => 0
  | f, e :: t => (if x - e.1 < 0 then -(x - e.1) * min f e.2 else (x - e.1) * (e.2 - min f e.2)) + kv x (f - min f e.2) t
section
variable {ρ : Nat → Nat} {l : Nat} {h : hS} {c : Nat} {L : List (Int × Int)} {lf bt : Int}
theorem cval_loop (N : Nat) (C : CR ρ l h c L lf bt) {x : Int} (hx : -100000000 ≤ x ∧ x ≤ 100000000) : ∀ (K : List (Int × Int)) (i n : Nat) (acc f : Int), L.drop i = K → i ≤ L.length → K.length < n → (0 ≤ f ∧ f ≤ 8000) → f_Curve_valueAt_14 N n h c (iI x) (lI acc) (iI f) (iI i) = some (lI (acc + kv x f K), h) := by
  intro K
  induction K with
  | nil =>
    intro i n acc f hK hl hn hf
    obtain ⟨n, rfl⟩ : ∃ q, n = q + 1 := ⟨n - 1, by omega⟩
    have hi := dr_nil hK
    have hlen := C.len
    unfold f_Curve_valueAt_14
    rw [gI_k C.k, C.f.1, if_pos ((iI_le (by omega) (by omega)).mpr (by omega)), kv, Int.add_zero]
  | cons e t ih =>
    intro i n acc f hK hl hn hf
    obtain ⟨n, rfl⟩ : ∃ q, n = q + 1 := ⟨n - 1, by omega⟩
    obtain ⟨hi, he, ht⟩ := dr_cons hK
    have hlen := C.len
    have hw := C.ok.w (List.getElem_mem hi)
    have hp := C.ok.1 _ (List.getElem_mem hi)
    rw [he] at hw hp
    have hln : t.length < n := by simp at hn; omega
    unfold f_Curve_valueAt_14
    rw [gI_k C.k, C.f.1, if_neg (fun q => absurd ((iI_le (by omega) (by omega)).mp q) (by omega)), cv_k C.k, weightOf_in N C hi, he, cl_s, bn_i, jmn_is (by omega) (by omega), bn_i, iI_sub, cv_k C.k, placeOf_in N C hi, he, cl_s, iI_l (z := x) (by omega) (by omega), iI_l (z := e.1) (by omega) (by omega), lI_sub, bn_i, iI_sub, iI_l (z := min f e.2) (by omega) (by omega), iI_l (z := e.2 - min f e.2) (by omega) (by omega), lI_mul, lI_neg, lI_mul, kv]
    by_cases hs : x - e.1 < 0
    · rw [if_neg (show ¬ (0 : Int32) ≤ lg_cmp (lI (x - e.1)) (0 : Int64) from fun q => absurd ((lg_lt0 (a := x - e.1) (b := 0) (by omega) (by omega)).mpr hs) (Int32.not_lt.mpr q)), if_pos hs]
      unfold f_Curve_valueAt_86
      rw [lI_add, bn_i, bn_i, show (1 : Int32) = iI 1 from rfl, iI_add, show (i : Int) + 1 = ((i + 1 : Nat) : Int) by omega, ih (i + 1) n _ _ ht (by omega) hln (by omega), Int.add_assoc]
    · rw [if_pos (show (0 : Int32) ≤ lg_cmp (lI (x - e.1)) (0 : Int64) from Int32.not_lt.mp (fun q => hs ((lg_lt0 (a := x - e.1) (b := 0) (by omega) (by omega)).mp q))), if_neg hs]
      unfold f_Curve_valueAt_86
      rw [lI_add, bn_i, bn_i, show (1 : Int32) = iI 1 from rfl, iI_add, show (i : Int) + 1 = ((i + 1 : Nat) : Int) by omega, ih (i + 1) n _ _ ht (by omega) hln (by omega), Int.add_assoc]
theorem cval_is (N : Nat) (hN : 10002 ≤ N) (C : CR ρ l h c L lf bt) {x : Int} (hx : -100000000 ≤ x ∧ x ≤ 100000000) : f_Curve_valueAt N h c (iI x) = some (lI (bt + kv x lf L), h) := by
  have hlen := C.len
  have ho := C.ok
  unfold f_Curve_valueAt
  rw [gJ_k C.k, C.f.2.2.2, gI_k C.k, C.f.2.1]
  exact cval_loop N C hx L 0 N bt lf (List.drop_zero ..) (Nat.zero_le _) (by omega) ho.2.2.1
/-- the place of the unit u, if none of them lies ahead -/
def kU : Int → List (Int × Int) → Int
  | _, [] => 1000000000
  | u, e :: t => if 0 < u - e.2 then kU (u - e.2) t else e.1
theorem cunit_loop (N : Nat) (C : CR ρ l h c L lf bt) : ∀ (K : List (Int × Int)) (i n : Nat) (u : Int), L.drop i = K → i ≤ L.length → K.length < n → (-10000 ≤ u ∧ u ≤ 1000000) → f_Curve_placeOfUnit_12 N n h c (iI u) (iI i) = some (iI (kU u K), h) := by
  intro K
  induction K with
  | nil =>
    intro i n u hK hl hn hu
    obtain ⟨n, rfl⟩ : ∃ q, n = q + 1 := ⟨n - 1, by omega⟩
    have hi := dr_nil hK
    have hlen := C.len
    unfold f_Curve_placeOfUnit_12
    rw [gI_k C.k, C.f.1, if_pos ((iI_le (by omega) (by omega)).mpr (by omega))]
    rfl
  | cons e t ih =>
    intro i n u hK hl hn hu
    obtain ⟨n, rfl⟩ : ∃ q, n = q + 1 := ⟨n - 1, by omega⟩
    obtain ⟨hi, he, ht⟩ := dr_cons hK
    have hlen := C.len
    have hw := C.ok.w (List.getElem_mem hi)
    have hp := C.ok.1 _ (List.getElem_mem hi)
    rw [he] at hw hp
    have hln : t.length < n := by simp at hn; omega
    unfold f_Curve_placeOfUnit_12
    rw [gI_k C.k, C.f.1, if_neg (fun q => absurd ((iI_le (by omega) (by omega)).mp q) (by omega)), cv_k C.k, weightOf_in N C hi, he, cl_s, iI_sub, bn_i, kU]
    by_cases hs : 0 < u - e.2
    · rw [if_pos (show (0 : Int32) < iI (u - e.2) from (iI_lt (a := 0) (by omega) (by omega)).mpr hs), if_pos hs, bn_i, show (1 : Int32) = iI 1 from rfl, iI_add, show (i : Int) + 1 = ((i + 1 : Nat) : Int) by omega, ih (i + 1) n _ ht (by omega) hln (by omega)]
    · rw [if_neg (show ¬ (0 : Int32) < iI (u - e.2) from fun q => hs ((iI_lt (a := 0) (by omega) (by omega)).mp q)), if_neg hs, cv_k C.k, placeOf_in N C hi, he, cl_s]
def cUnit (u : Int) (L : List (Int × Int)) : Int := if 1 ≤ u then kU u L else -1000000000
theorem cunit_is (N : Nat) (hN : 10002 ≤ N) (C : CR ρ l h c L lf bt) {u : Int} (hu : -1000000 ≤ u ∧ u ≤ 1000000) : f_Curve_placeOfUnit N h c (iI u) = some (iI (cUnit u L), h) := by
  have hlen := C.len
  unfold f_Curve_placeOfUnit cUnit
  by_cases h1 : 1 ≤ u
  · rw [if_pos (show (1 : Int32) ≤ iI u from (iI_le (a := 1) (by omega) (by omega)).mpr h1), if_pos h1]
    exact cunit_loop N C L 0 N u (List.drop_zero ..) (Nat.zero_le _) (by omega) (by omega)
  · rw [if_neg (show ¬ (1 : Int32) ≤ iI u from fun q => h1 ((iI_le (a := 1) (by omega) (by omega)).mp q)), if_neg h1]
    rfl
theorem clow_is (N : Nat) (hN : 10002 ≤ N) (C : CR ρ l h c L lf bt) {s : Int} (hs : -100000 ≤ s ∧ s ≤ 100000) : f_Curve_lowEnd N h c (iI s) = some (iI (cUnit (lf + s) L), h) := by
  have ho := C.ok.2.2.1
  unfold f_Curve_lowEnd
  rw [gI_k C.k, C.f.2.1, cv_k C.k, iI_add, cunit_is N hN C (by omega), cl_s]
theorem chigh_is (N : Nat) (hN : 10002 ≤ N) (C : CR ρ l h c L lf bt) {s : Int} (hs : -100000 ≤ s ∧ s ≤ 100000) : f_Curve_highEnd N h c (iI s) = some (iI (cUnit (lf + s + 1) L), h) := by
  have ho := C.ok.2.2.1
  unfold f_Curve_highEnd
  rw [gI_k C.k, C.f.2.1, cv_k C.k, iI_add, show (1 : Int32) = iI 1 from rfl, iI_add, cunit_is N hN C (by omega), cl_s]
theorem kU_rng (u : Int) {K : List (Int × Int)} (h : ∀ e ∈ K, -20000 ≤ e.1 ∧ e.1 ≤ 20000) : -1000000000 ≤ kU u K ∧ kU u K ≤ 1000000000 := by
  induction K generalizing u with
  | nil => simp [kU]
  | cons e t ih =>
    rw [kU]
    have := h e (List.mem_cons_self ..)
    split
    · exact ih _ (fun e he => h e (List.mem_cons_of_mem _ he))
    · omega
theorem cUnit_rng (u : Int) {K : List (Int × Int)} (h : ∀ e ∈ K, -20000 ≤ e.1 ∧ e.1 ≤ 20000) : -1000000000 ≤ cUnit u K ∧ cUnit u K ≤ 1000000000 := by
  have := kU_rng u h
  unfold cUnit
  split <;> omega
theorem cuOk.p {L : List (Int × Int)} {lf bt : Int} (k : cuOk L lf bt) : ∀ e ∈ L, -20000 ≤ e.1 ∧ e.1 ≤ 20000 := fun e he => ⟨(k.1 e he).1, (k.1 e he).2.1⟩
theorem clamp_is (N : Nat) (h : hS) {x a b : Int} (hx : -2147483648 ≤ x ∧ x ≤ 2147483647) (ha : -2147483648 ≤ a ∧ a ≤ 2147483647) (hb : -2147483648 ≤ b ∧ b ≤ 2147483647) : f_K_clamp N h (iI x) (iI a) (iI b) = some (iI (min (max x a) b), h) := by
  unfold f_K_clamp
  rw [jmx_is hx ha, jmn_is (by omega) hb]
theorem cnear_is (N : Nat) (hN : 10002 ≤ N) (C : CR ρ l h c L lf bt) {s : Int} (hs : -100000 ≤ s ∧ s ≤ 100000) : f_Curve_nearestToZero N h c (iI s) = some (iI (min (max 0 (cUnit (lf + s) L)) (cUnit (lf + s + 1) L)), h) := by
  have r1 := cUnit_rng (lf + s) C.ok.p
  have r2 := cUnit_rng (lf + s + 1) C.ok.p
  unfold f_Curve_nearestToZero
  rw [cv_k C.k, clow_is N hN C hs, cl_s, cv_k C.k, chigh_is N hN C hs, cl_s, show (0 : Int32) = iI 0 from rfl, clamp_is N h (by omega) (by omega) (by omega), cl_s]
/-- the slope behind x -/
def kSl (x : Int) : Int → List (Int × Int) → Int
  | s, [] => s
  | s, e :: t => if x < e.1 then s else kSl x (s + e.2) t
theorem cslope_loop (N : Nat) (C : CR ρ l h c L lf bt) {x : Int} (hx : -100000000 ≤ x ∧ x ≤ 100000000) : ∀ (K : List (Int × Int)) (i n : Nat) (s : Int), L.drop i = K → i ≤ L.length → K.length < n → f_Curve_slopeBehind_8 N n h c (iI x) (iI s) (iI i) = some (iI (kSl x s K), h) := by
  intro K
  induction K with
  | nil =>
    intro i n s hK hl hn
    obtain ⟨n, rfl⟩ : ∃ q, n = q + 1 := ⟨n - 1, by omega⟩
    have hi := dr_nil hK
    have hlen := C.len
    unfold f_Curve_slopeBehind_8
    rw [gI_k C.k, C.f.1, if_pos ((iI_le (by omega) (by omega)).mpr (by omega))]
    rfl
  | cons e t ih =>
    intro i n s hK hl hn
    obtain ⟨n, rfl⟩ : ∃ q, n = q + 1 := ⟨n - 1, by omega⟩
    obtain ⟨hi, he, ht⟩ := dr_cons hK
    have hlen := C.len
    have hp := C.ok.1 _ (List.getElem_mem hi)
    rw [he] at hp
    have hln : t.length < n := by simp at hn; omega
    unfold f_Curve_slopeBehind_8
    rw [gI_k C.k, C.f.1, if_neg (fun q => absurd ((iI_le (by omega) (by omega)).mp q) (by omega)), cv_k C.k, placeOf_in N C hi, he, cl_s, kSl]
    by_cases hs : x < e.1
    · rw [if_pos ((iI_lt (by omega) (by omega)).mpr hs), if_pos hs]
      rfl
    · rw [if_neg (fun q => hs ((iI_lt (by omega) (by omega)).mp q)), if_neg hs, cv_k C.k, weightOf_in N C hi, he, cl_s, iI_add, bn_i, bn_i, show (1 : Int32) = iI 1 from rfl, iI_add, show (i : Int) + 1 = ((i + 1 : Nat) : Int) by omega, ih (i + 1) n _ ht (by omega) hln]
theorem cslope_is (N : Nat) (hN : 10002 ≤ N) (C : CR ρ l h c L lf bt) {x : Int} (hx : -100000000 ≤ x ∧ x ≤ 100000000) : f_Curve_slopeBehind N h c (iI x) = some (iI (kSl x (-lf) L), h) := by
  have hlen := C.len
  unfold f_Curve_slopeBehind
  rw [gI_k C.k, C.f.2.1, iI_neg, bn_i]
  exact cslope_loop N C hx L 0 N _ (List.drop_zero ..) (Nat.zero_le _) (by omega)
/-- how many kinks there are up to x -/
def kUp (x : Int) : List (Int × Int) → Nat
  | [] => 0
  | e :: t => if x < e.1 then 0 else kUp x t + 1
theorem cupto_loop (N : Nat) (C : CR ρ l h c L lf bt) {x : Int} (hx : -100000000 ≤ x ∧ x ≤ 100000000) : ∀ (K : List (Int × Int)) (i n : Nat), L.drop i = K → i ≤ L.length → K.length < n → f_Curve_kinksUpTo_2 N n h c (iI x) (iI i) = some (iI ((i + kUp x K : Nat) : Int), h) := by
  intro K
  induction K with
  | nil =>
    intro i n hK hl hn
    obtain ⟨n, rfl⟩ : ∃ q, n = q + 1 := ⟨n - 1, by omega⟩
    have hi := dr_nil hK
    have hlen := C.len
    unfold f_Curve_kinksUpTo_2
    rw [gI_k C.k, C.f.1, if_pos ((iI_le (by omega) (by omega)).mpr (by omega))]
    rfl
  | cons e t ih =>
    intro i n hK hl hn
    obtain ⟨n, rfl⟩ : ∃ q, n = q + 1 := ⟨n - 1, by omega⟩
    obtain ⟨hi, he, ht⟩ := dr_cons hK
    have hlen := C.len
    have hp := C.ok.1 _ (List.getElem_mem hi)
    rw [he] at hp
    have hln : t.length < n := by simp at hn; omega
    unfold f_Curve_kinksUpTo_2
    rw [gI_k C.k, C.f.1, if_neg (fun q => absurd ((iI_le (by omega) (by omega)).mp q) (by omega)), cv_k C.k, placeOf_in N C hi, he, cl_s, kUp]
    by_cases hs : x < e.1
    · rw [if_pos ((iI_lt (by omega) (by omega)).mpr hs), if_pos hs]
      rfl
    · rw [if_neg (fun q => hs ((iI_lt (by omega) (by omega)).mp q)), if_neg hs, bn_i, show (1 : Int32) = iI 1 from rfl, iI_add, show (i : Int) + 1 = ((i + 1 : Nat) : Int) by omega, ih (i + 1) n ht (by omega) hln, show i + 1 + kUp x t = i + (kUp x t + 1) by omega]
theorem cupto_is (N : Nat) (hN : 10002 ≤ N) (C : CR ρ l h c L lf bt) {x : Int} (hx : -100000000 ≤ x ∧ x ≤ 100000000) : f_Curve_kinksUpTo N h c (iI x) = some (iI (kUp x L), h) := by
  have hlen := C.len
  unfold f_Curve_kinksUpTo
  have := cupto_loop N C hx L 0 N (List.drop_zero ..) (Nat.zero_le _) (by omega)
  rw [Nat.zero_add] at this
  exact this
/-- a place where it is least -/
def kLow : Int → List (Int × Int) → Int
  | _, [] => 0
  | u, e :: t => if 0 < u - e.2 then kLow (u - e.2) t else e.1
theorem clowest_loop (N : Nat) (C : CR ρ l h c L lf bt) : ∀ (K : List (Int × Int)) (i n : Nat) (u : Int), L.drop i = K → i ≤ L.length → K.length < n → (-10000 ≤ u ∧ u ≤ 1000000) → f_Curve_someLowest_7 N n h c (iI u) (iI i) = some (iI (kLow u K), h) := by
  intro K
  induction K with
  | nil =>
    intro i n u hK hl hn hu
    obtain ⟨n, rfl⟩ : ∃ q, n = q + 1 := ⟨n - 1, by omega⟩
    have hi := dr_nil hK
    have hlen := C.len
    unfold f_Curve_someLowest_7
    rw [gI_k C.k, C.f.1, if_pos ((iI_le (by omega) (by omega)).mpr (by omega))]
    rfl
  | cons e t ih =>
    intro i n u hK hl hn hu
    obtain ⟨n, rfl⟩ : ∃ q, n = q + 1 := ⟨n - 1, by omega⟩
    obtain ⟨hi, he, ht⟩ := dr_cons hK
    have hlen := C.len
    have hw := C.ok.w (List.getElem_mem hi)
    have hp := C.ok.1 _ (List.getElem_mem hi)
    rw [he] at hw hp
    have hln : t.length < n := by simp at hn; omega
    unfold f_Curve_someLowest_7
    rw [gI_k C.k, C.f.1, if_neg (fun q => absurd ((iI_le (by omega) (by omega)).mp q) (by omega)), cv_k C.k, weightOf_in N C hi, he, cl_s, iI_sub, bn_i, kLow]
    by_cases hs : 0 < u - e.2
    · rw [if_pos (show (0 : Int32) < iI (u - e.2) from (iI_lt (a := 0) (by omega) (by omega)).mpr hs), if_pos hs, bn_i, show (1 : Int32) = iI 1 from rfl, iI_add, show (i : Int) + 1 = ((i + 1 : Nat) : Int) by omega, ih (i + 1) n _ ht (by omega) hln (by omega)]
    · rw [if_neg (show ¬ (0 : Int32) < iI (u - e.2) from fun q => hs ((iI_lt (a := 0) (by omega) (by omega)).mp q)), if_neg hs, cv_k C.k, placeOf_in N C hi, he, cl_s]
theorem clowest_is (N : Nat) (hN : 10002 ≤ N) (C : CR ρ l h c L lf bt) : f_Curve_someLowest N h c = some (iI (kLow lf L), h) := by
  have hlen := C.len
  have ho := C.ok.2.2.1
  unfold f_Curve_someLowest
  rw [gI_k C.k, C.f.2.1]
  exact clowest_loop N C L 0 N _ (List.drop_zero ..) (Nat.zero_le _) (by omega) (by omega)
/-- it is too much -/
abbrev kMuch (L : List (Int × Int)) (bt : Int) : Prop := 5000 < zSum L ∨ 100000000 < bt ∨ (∃ e, L.head? = some e ∧ e.1 < -5000) ∨ ∃ e, L.getLast? = some e ∧ 5000 < e.1
theorem cmuch_is (N : Nat) (C : CR ρ l h c L lf bt) : ∃ v : Int32, f_Curve_isTooMuch N h c = some (v, h) ∧ (kMuch L bt → v = 1) ∧ (¬ kMuch L bt → v = 0) := by
  have hlen := C.len
  have ho := C.ok
  have hnn := ho.nn
  unfold f_Curve_isTooMuch
  rw [gI_k C.k, C.f.2.2.1]
  by_cases h1 : 5000 < zSum L
  · rw [if_pos (show (5000 : Int32) < iI (zSum L) from (iI_lt (a := 5000) (by omega) (by have := ho.2.1; omega)).mpr h1)]
    exact ⟨1, bz_1, fun _ => rfl, fun q => absurd (Or.inl h1) q⟩
  rw [if_neg (show ¬ (5000 : Int32) < iI (zSum L) from fun q => h1 ((iI_lt (a := 5000) (by omega) (by have := ho.2.1; omega)).mp q)), gJ_k C.k, C.f.2.2.2]
  by_cases h2 : 100000000 < bt
  · rw [if_neg (show ¬ lg_cmp (lI bt) (100000000 : Int64) ≤ 0 from fun q => absurd ((lg_gt0 (a := bt) (b := 100000000) (by have := ho.2.2.2; omega) (by omega)).mpr h2) (Int32.not_lt.mpr q))]
    exact ⟨1, bz_1, fun _ => rfl, fun q => absurd (Or.inr (Or.inl h2)) q⟩
  rw [if_pos (show lg_cmp (lI bt) (100000000 : Int64) ≤ 0 from Int32.not_lt.mp (fun q => h2 ((lg_gt0 (a := bt) (b := 100000000) (by have := ho.2.2.2; omega) (by omega)).mp q))), gI_k C.k, C.f.1]
  by_cases h3 : L.length = 0
  · rw [if_pos (show iI (L.length : Int) ≤ (0 : Int32) from (iI_le (b := 0) (by omega) (by omega)).mpr (by omega))]
    refine ⟨0, bz_0, fun q => ?_, fun _ => rfl⟩
    have hL : L = [] := List.length_eq_zero_iff.mp h3
    subst hL
    rcases q with q | q | ⟨e, q, _⟩ | ⟨e, q, _⟩
    · exact absurd q h1
    · exact absurd q h2
    · cases q
    · cases q
  rw [if_neg (show ¬ iI (L.length : Int) ≤ (0 : Int32) from fun q => absurd ((iI_le (b := 0) (by omega) (by omega)).mp q) (by omega))]
  have e0 : L.head? = some L[0] := by rw [List.head?_eq_getElem?, List.getElem?_eq_getElem (by omega)]
  have e1 : L.getLast? = some L[L.length - 1] := by rw [List.getLast?_eq_getElem?, List.getElem?_eq_getElem (by omega)]
  have p0 := ho.1 _ (List.getElem_mem (show 0 < L.length by omega))
  have p1 := ho.1 _ (List.getElem_mem (show L.length - 1 < L.length by omega))
  have hp0 := placeOf_in N C (i := 0) (by omega)
  have hp1 := placeOf_in N C (i := L.length - 1) (by omega)
  rw [cv_k C.k, show (0 : Int32) = iI ((0 : Nat) : Int) from rfl, hp0, cl_s]
  by_cases h4 : (L[0]).1 < -5000
  · rw [if_pos (show iI (L[0]).1 < (-5000 : Int32) from (iI_lt (b := -5000) (by omega) (by omega)).mpr h4)]
    exact ⟨1, bz_1, fun _ => rfl, fun q => absurd (Or.inr (Or.inr (Or.inl ⟨_, e0, h4⟩))) q⟩
  rw [if_neg (show ¬ iI (L[0]).1 < (-5000 : Int32) from fun q => h4 ((iI_lt (b := -5000) (by omega) (by omega)).mp q)), gI_k C.k, C.f.1, show (1 : Int32) = iI 1 from rfl, iI_sub, show (L.length : Int) - 1 = ((L.length - 1 : Nat) : Int) by omega, cv_k C.k, hp1, cl_s]
  by_cases h5 : 5000 < (L[L.length - 1]).1
  · rw [if_neg (show ¬ iI (L[L.length - 1]).1 ≤ (5000 : Int32) from fun q => absurd ((iI_le (b := 5000) (by omega) (by omega)).mp q) (by omega))]
    exact ⟨1, bz_1, fun _ => rfl, fun q => absurd (Or.inr (Or.inr (Or.inr ⟨_, e1, h5⟩))) q⟩
  · rw [if_pos (show iI (L[L.length - 1]).1 ≤ (5000 : Int32) from (iI_le (b := 5000) (by omega) (by omega)).mpr (by omega))]
    refine ⟨0, bz_0, fun q => ?_, fun _ => rfl⟩
    rcases q with q | q | ⟨e, q, q'⟩ | ⟨e, q, q'⟩
    · exact absurd q h1
    · exact absurd q h2
    · rw [e0] at q; cases q; exact absurd q' h4
    · rw [e1] at q; cases q; exact absurd q' h5
end
