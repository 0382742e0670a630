/-! WHAT NEVER CHANGES: words and rows of numbers (label 30; the row of references at address 0) -/
def zWord : Nat → List Int
  | 0 => [107, 105, 110, 107]
  | 1 => [111, 118, 101, 114]
  | 2 => [117, 110, 100, 101, 114]
  | 3 => [100, 114, 105, 102, 116]
  | 4 => [109, 111, 118, 101]
  | 5 => [114, 105, 115, 101]
  | 6 => [102, 97, 108, 108]
  | 7 => [112, 108, 117, 115]
  | 8 => [97, 110, 100]
  | _ => []
theorem zWord_rng (k : Nat) : ∀ e ∈ zWord k, 97 ≤ e ∧ e ≤ 122 := by
  match k with
  | 0 => decide
  | 1 => decide
  | 2 => decide
  | 3 => decide
  | 4 => decide
  | 5 => decide
  | 6 => decide
  | 7 => decide
  | 8 => decide
  | n + 9 => simp [zWord]
theorem zWord_len (k : Nat) : (zWord k).length ≤ 5 := by
  match k with
  | 0 => decide
  | 1 => decide
  | 2 => decide
  | 3 => decide
  | 4 => decide
  | 5 => decide
  | 6 => decide
  | 7 => decide
  | 8 => decide
  | n + 9 => simp [zWord]
/-- a String of bytes below 128 -/
def WD (ρ : Nat → Nat) (h : hS) (r : Option Nat) (w : List Int) : Prop := ∃ a b, r = some a ∧ (h_k h a = 57 ∧ ρ a = 30 ∧ a < h_x h) ∧ h_i h a 1 = 0 ∧ h_r h a 0 = some b ∧ (h_k h b = 55 ∧ ρ b = 30 ∧ b < h_x h ∧ h_n h b = w.length) ∧ ∀ i, (hi : i < w.length) → h_i h b i = iI w[i]
/-- a row of numbers -/
def NR (ρ : Nat → Nat) (h : hS) (r : Option Nat) (w : List Int) : Prop := ∃ a, r = some a ∧ (h_k h a = 56 ∧ ρ a = 30 ∧ a < h_x h ∧ h_n h a = w.length) ∧ ∀ i, (hi : i < w.length) → h_i h a i = iI w[i]
def CN (ρ : Nat → Nat) (h : hS) : Prop := (0 < h_x h ∧ ρ 0 = 30) ∧ (∀ k, k < 9 → WD ρ h (h_r h 0 (8 + k)) (zWord k)) ∧ NR ρ h (h_r h 0 1) [2, 2, 2, 1, 2, 0, 0, 1, 1] ∧ NR ρ h (h_r h 0 2) [-500, -500, -500, -500, 0, 0, 0, 0, 0] ∧ NR ρ h (h_r h 0 3) [500, 500, 500, 500, 99, 0, 0, 999, 3]
section
variable {ρ ρ' : Nat → Nat} {h g : hS} {R : Nat → Prop}
theorem WD.keep {r : Option Nat} {w : List Int} (W : WD ρ h r w) (t : tr ρ h R ρ' g) (hR : ¬ R 30) : WD ρ' g r w := by
  obtain ⟨a, b, h1, h2, h3, h4, h5, h6⟩ := W
  obtain ⟨a1, a2, a3, a4⟩ := t.2 a h2.2.2
  obtain ⟨b1, b2, b3, b4⟩ := t.2 b h5.2.2.1
  obtain ⟨a5, a6, a7⟩ := a4 (by rw [h2.2.1]; exact hR)
  obtain ⟨b5, b6, b7⟩ := b4 (by rw [h5.2.1]; exact hR)
  have := t.1
  exact ⟨a, b, h1, ⟨a1.trans h2.1, a3.trans h2.2.1, by omega⟩, by rw [a5]; exact h3, by rw [a7]; exact h4, ⟨b1.trans h5.1, b3.trans h5.2.1, by omega, b2.trans h5.2.2.2⟩, fun i hi => by rw [b5]; exact h6 i hi⟩
theorem NR.keep {r : Option Nat} {w : List Int} (W : NR ρ h r w) (t : tr ρ h R ρ' g) (hR : ¬ R 30) : NR ρ' g r w := by
  obtain ⟨b, h1, h5, h6⟩ := W
  obtain ⟨b1, b2, b3, b4⟩ := t.2 b h5.2.2.1
  obtain ⟨b5, b6, b7⟩ := b4 (by rw [h5.2.1]; exact hR)
  have := t.1
  exact ⟨b, h1, ⟨b1.trans h5.1, b3.trans h5.2.1, by omega, b2.trans h5.2.2.2⟩, fun i hi => by rw [b5]; exact h6 i hi⟩
theorem CN.keep (C : CN ρ h) (t : tr ρ h R ρ' g) (hR : ¬ R 30) : CN ρ' g := by
  obtain ⟨⟨c1, c2⟩, c3, c4, c5, c6⟩ := C
  obtain ⟨a1, a2, a3, a4⟩ := t.2 0 c1
  obtain ⟨a5, a6, a7⟩ := a4 (by rw [c2]; exact hR)
  have := t.1
  exact ⟨⟨by omega, a3.trans c2⟩, fun k hk => by rw [a7]; exact (c3 k hk).keep t hR, by rw [a7]; exact c4.keep t hR, by rw [a7]; exact c5.keep t hR, by rw [a7]; exact c6.keep t hR⟩
theorem RA_30 : ¬ RA 30 := by unfold RA RB; omega
theorem i32_shr0 (x : Int32) : x >>> ((0 : Int32) &&& 31) = x := by
  rw [show ((0 : Int32) &&& 31) = 0 from rfl]; exact Int32.shiftRight_zero
theorem WD.len (N : Nat) {r : Option Nat} {w : List Int} (W : WD ρ h r w) {β : Type} (f : Int32 → hS → Option β) : cv h r 56 (fun a => f_Str_length_8abf5 N h a) f = f (iI w.length) h := by
  obtain ⟨a, b, h1, h2, h3, h4, h5, h6⟩ := W
  subst h1
  rw [cv_k (show h_k h a = 56 + 1 from h2.1)]
  unfold f_Str_length_8abf5 f_Str_coder_7d493 f_Str_coder_7d493_14
  rw [gR_k (show h_k h a = 56 + 1 from h2.1), h4]
  show cl (if h_k h b = 52 ∨ h_k h b = 55 then _ else none) f = _
  rw [if_pos (Or.inr h5.1), cv_k (show h_k h a = 56 + 1 from h2.1), if_neg (by decide), gI_k (show h_k h a = 56 + 1 from h2.1), h3]
  show cl (some (Int32.ofNat (h_n h b) >>> ((0 : Int32) &&& 31), h)) f = _
  rw [cl_s, i32_shr0, h5.2.2.2]
  rfl
theorem char_ok : ∀ n : Fin 128, ((iI (n.val : Int) &&& (255 : Int32)).toUInt32 % 65536).toInt32 = iI (n.val : Int) ∧ vp_nar .char (iI (n.val : Int)) = iI (n.val : Int) := by decide
theorem WD.at (N : Nat) {r : Option Nat} {w : List Int} (W : WD ρ h r w) (hw : ∀ e ∈ w, 0 ≤ e ∧ e ≤ 127) (hl : w.length ≤ 100) {i : Nat} (hi : i < w.length) {β : Type} (f : Int32 → hS → Option β) : cv h r 56 (fun a => f_Str_charAt_5068e N h a (iI i)) f = f (iI w[i]) h := by
  obtain ⟨a, b, h1, h2, h3, h4, h5, h6⟩ := W
  subst h1
  have hwi := hw _ (List.getElem_mem hi)
  obtain ⟨n, hn⟩ : ∃ n : Fin 128, w[i] = (n.val : Int) := ⟨⟨w[i].toNat, by omega⟩, by show w[i] = (w[i].toNat : Int); omega⟩
  obtain ⟨k1, k2⟩ := char_ok n
  rw [cv_k (show h_k h a = 56 + 1 from h2.1)]
  unfold f_Str_charAt_5068e f_Str_isLatin1_aae02 f_Str_isLatin1_aae02_18 f_Lat_charAt_3b067 f_Str_checkIndex_df160 f_Pre_checkIndex_8e157
  have hb : lnB h (some b) = fun (f : Int32 → Option (Int32 × hS)) => f (iI w.length) := by
    funext f
    show (if h_k h b = 52 ∨ h_k h b = 55 then f (Int32.ofNat (h_n h b)) else none) = _
    rw [if_pos (Or.inr h5.1), h5.2.2.2]; rfl
  have hat : aB h (some b) (iI i) = fun (f : Int32 → Option (Int32 × hS)) => f (iI w[i]) := by
    funext f
    have hin : inb (iI i) (h_n h b) := by rw [← nI_iI, h5.2.2.2]; exact nI_in hi (by omega)
    show (if (h_k h b = 52 ∨ h_k h b = 55) ∧ inb (iI i) (h_n h b) then f (h_i h b (iI i).toNatClampNeg) else none) = _
    rw [if_pos ⟨Or.inr h5.1, hin⟩, ← nI_iI, nI_clamp (by omega), h6 i hi]
  rw [cv_k (show h_k h a = 56 + 1 from h2.1), if_neg (by decide), gI_k (show h_k h a = 56 + 1 from h2.1), h3, if_pos rfl, bz_1, cl_s, if_neg (by decide), gR_k (show h_k h a = 56 + 1 from h2.1), h4]
  simp only [nn]
  rw [hb]
  simp only [bn_i]
  rw [if_neg (show ¬ iI i < (0 : Int32) from fun q => absurd ((iI_lt (b := 0) (by omega) (by omega)).mp q) (by omega)), if_pos ((iI_lt (by omega) (by omega)).mpr (by omega)), cl_s, cl_s, hat]
  simp only []
  rw [hn, k1]
  unfold zr
  rw [if_pos k2, cl_s, if_pos k2, cl_s]
theorem NR.at {r : Option Nat} {w : List Int} (W : NR ρ h r w) (hl : w.length ≤ 100) {i : Nat} (hi : i < w.length) {β : Type} (f : Int32 → Option β) : aI h 56 r (iI i) f = f (iI w[i]) := by
  obtain ⟨a, h1, h2, h3⟩ := W
  subst h1
  have hin : inb (iI i) (h_n h a) := by rw [← nI_iI, h2.2.2.2]; exact nI_in hi (by omega)
  show (if h_k h a = 56 ∧ inb (iI i) (h_n h a) then f (h_i h a (iI i).toNatClampNeg) else none) = _
  rw [if_pos ⟨h2.1, hin⟩, ← nI_iI, nI_clamp (by omega), h3 i hi]
/-- how many numbers a kind has -/
def zNum (k : Int) : Int := if k ≤ 2 ∨ k = 4 then 2 else if k = 5 ∨ k = 6 then 0 else 1
theorem kind_y (N : Nat) (h : hS) {k : Int} (hk : 0 ≤ k ∧ k ≤ 8) : f_K_isKind N h (iI k) = some (1, h) := by
  unfold f_K_isKind
  rw [if_neg (show ¬ iI k < (0 : Int32) from fun q => absurd ((iI_lt (b := 0) (by omega) (by omega)).mp q) (by omega)), if_neg (show ¬ (9 : Int32) ≤ iI k from fun q => absurd ((iI_le (a := 9) (by omega) (by omega)).mp q) (by omega))]
  rfl
theorem kind_n (N : Nat) (h : hS) {k : Int} (hi : i32 k) (hk : ¬ (0 ≤ k ∧ k ≤ 8)) : f_K_isKind N h (iI k) = some (0, h) := by
  unfold i32 at hi
  unfold f_K_isKind
  by_cases h0 : k < 0
  · rw [if_pos (show iI k < (0 : Int32) from (iI_lt (b := 0) hi (by omega)).mpr h0)]; rfl
  · rw [if_neg (show ¬ iI k < (0 : Int32) from fun q => h0 ((iI_lt (b := 0) hi (by omega)).mp q)), if_pos (show (9 : Int32) ≤ iI k from (iI_le (a := 9) (by omega) hi).mpr (by omega))]; rfl
theorem nums_is (N : Nat) (C : CN ρ h) {k : Int} (hk : 0 ≤ k ∧ k ≤ 8) : f_K_numbersOf N h (iI k) = some (iI (zNum k), h) := by
  obtain ⟨n, hn⟩ : ∃ n : Nat, k = n := ⟨k.toNat, by omega⟩
  subst hn
  unfold f_K_numbersOf f_K_numbersOf_16
  rw [kind_y N h hk, cl_s, if_neg (by decide), bn_i, C.2.2.1.at (by decide) (i := n) (show n < 9 by omega)]
  rcases (show n = 0 ∨ n = 1 ∨ n = 2 ∨ n = 3 ∨ n = 4 ∨ n = 5 ∨ n = 6 ∨ n = 7 ∨ n = 8 by omega) with e | e | e | e | e | e | e | e | e <;> subst e <;> rfl
theorem word_is (N : Nat) (C : CN ρ h) {k : Nat} (hk : k < 9) : ∃ r, f_K_wordOf N h (iI k) = some (r, h) ∧ WD ρ h r (zWord k) := by
  refine ⟨h_r h 0 (8 + k), ?_, C.2.1 k hk⟩
  unfold f_K_wordOf
  rcases (show k = 0 ∨ k = 1 ∨ k = 2 ∨ k = 3 ∨ k = 4 ∨ k = 5 ∨ k = 6 ∨ k = 7 ∨ k = 8 by omega) with e | e | e | e | e | e | e | e | e <;> subst e <;> rfl
end
