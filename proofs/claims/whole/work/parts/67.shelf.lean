/-! THE SHELF (label 11): a curve is written as bits; of like keepsakes there is one -/
theorem iI_div64 {a : Nat} (ha : a ≤ 1000000) : iI a / (64 : Int32) = iI ((a / 64 : Nat) : Int) := by
  apply Int32.toInt_inj.mp
  rw [Int32.toInt_div_of_ne_right _ _ (by decide), iI_toInt (by omega) (by omega), iI_toInt (by omega) (by omega)]
  show (a : Int).tdiv 64 = _
  rw [Int.tdiv_eq_ediv_of_nonneg (by omega)]
  omega
theorem s_j_sJ (h : hS) (a k : Nat) (v : Int64) (F : Nat → Int64) : s_j (s_J h a F) a k v = s_J h a (vp_updL F k v) := by
  simp only [s_j, s_J, va_up]
  congr 4
  funext b
  by_cases hb : b = a <;> simp [va_up, hb]
theorem s_J_self (h : hS) (a : Nat) : s_J h a (h_j h a) = h := by
  have : va_up h.2.2.2.1 a (h.2.2.2.1 a) = h.2.2.2.1 := by
    funext b
    by_cases hb : b = a
    · subst hb; simp [va_up]
    · simp [va_up, hb]
  show (h.1, h.2.1, h.2.2.1, va_up h.2.2.2.1 a (h.2.2.2.1 a), h.2.2.2.2) = h
  rw [this]
theorem s_J_J (h : hS) (a : Nat) (F G : Nat → Int64) : s_J (s_J h a F) a G = s_J h a G := by
  simp only [s_J, va_up]
  congr 4
  funext b
  by_cases hb : b = a <;> simp [va_up, hb]
/-- a row of n longs -/
def rj (h : hS) (a n : Nat) : Prop := h_k h a = 51 ∧ h_n h a = n
section
variable {β : Type} {h : hS} {a n : Nat}
theorem lnJ {f : Int32 → Option β} (hr : rj h a n) : lnA h 51 (some a) f = f (iI n) := by
  show (if h_k h a = 51 then f (Int32.ofNat (h_n h a)) else none) = _
  rw [if_pos hr.1, hr.2, ← nI_iI]; rfl
theorem aJ_i {j : Nat} {f : Int64 → Option β} (hr : rj h a n) (hj : j < n) (hn : n < 2 ^ 31) : aJ h (some a) (iI j) f = f (h_j h a j) := by
  have h1 : inb (iI j) (h_n h a) := by rw [hr.2, ← nI_iI]; exact nI_in hj hn
  show (if h_k h a = 51 ∧ inb (iI j) (h_n h a) then f (h_j h a (iI j).toNatClampNeg) else none) = _
  rw [if_pos ⟨hr.1, h1⟩, ← nI_iI, nI_clamp (by omega)]
theorem uJ_i {j : Nat} {v : Int64} {f : hS → Option β} (hr : rj h a n) (hj : j < n) (hn : n < 2 ^ 31) : uJ h (some a) (iI j) v f = f (s_j h a j v) := by
  have h1 : inb (iI j) (h_n h a) := by rw [hr.2, ← nI_iI]; exact nI_in hj hn
  show (if h_k h a = 51 ∧ inb (iI j) (h_n h a) then f (s_j h a (iI j).toNatClampNeg v) else none) = _
  rw [if_pos ⟨hr.1, h1⟩, ← nI_iI, nI_clamp (by omega)]
theorem dv_ok {y : Int32} {f : Option β} (hy : y ≠ 0) : dv y f = f := by unfold dv; rw [if_neg hy]
end
theorem fillJ_loop (N : Nat) {h : hS} {a n : Nat} (hr : rj h a n) (hn : n < 2 ^ 31) (v : Int64) : ∀ (m i fuel : Nat) (F : Nat → Int64), i + m = n → (∀ j, j < i → F j = v) → ∃ G, f_Arr_fill_d0a16_6 N (m + (fuel + 1)) (s_J h a F) (some a) v (iI i) (iI n) = some ((), s_J h a G) ∧ ∀ j, j < n → G j = v := by
  intro m
  induction m with
  | zero =>
    intro i fuel F hi hF
    refine ⟨F, ?_, fun j hj => hF j (by omega)⟩
    rw [Nat.zero_add]
    unfold f_Arr_fill_d0a16_6
    rw [if_pos ((iI_le (by omega) (by omega)).mpr (by omega))]
  | succ m ih =>
    intro i fuel F hi hF
    obtain ⟨G, e1, e2⟩ := ih (i + 1) fuel (vp_updL F i v) (by omega) (fun j hj => by
      unfold vp_updL
      by_cases h : j = i
      · rw [if_pos h]
      · rw [if_neg h]; exact hF j (by omega))
    refine ⟨G, ?_, e2⟩
    rw [show m + 1 + (fuel + 1) = (m + (fuel + 1)) + 1 by omega]
    unfold f_Arr_fill_d0a16_6
    rw [if_neg (fun q => absurd ((iI_le (by omega) (by omega)).mp q) (by omega)), uJ_i (h := s_J h a F) hr (by omega) hn, s_j_sJ, bn_i, show (1 : Int32) = iI 1 from rfl, iI_add, show (i : Int) + 1 = ((i + 1 : Nat) : Int) by omega]
    exact e1
theorem fillJ_is (N : Nat) {h : hS} {a n : Nat} (hr : rj h a n) (hn : n < N) (hn2 : n < 2 ^ 31) (v : Int64) : ∃ G, f_Arr_fill_d0a16 N h (some a) v = some ((), s_J h a G) ∧ ∀ j, j < n → G j = v := by
  obtain ⟨fuel, hfu⟩ : ∃ fuel, N = n + (fuel + 1) := ⟨N - n - 1, by omega⟩
  obtain ⟨G, e1, e2⟩ := fillJ_loop N hr hn2 v n 0 fuel (h_j h a) (by omega) (fun j hj => by omega)
  refine ⟨G, ?_, e2⟩
  unfold f_Arr_fill_d0a16
  rw [lnJ hr]
  rw [s_J_self, ← hfu] at e1
  exact e1
/-- a shelf at sh, its row at wr -/
def SO (ρ : Nat → Nat) (h : hS) (sh wr : Nat) : Prop := (h_k h sh = 7 ∧ ρ sh = 11 ∧ sh < h_x h) ∧ (h_r h sh 0 = some wr ∧ rj h wr 235 ∧ ρ wr = 11 ∧ wr < h_x h)
theorem SO.sJ {ρ : Nat → Nat} {h : hS} {sh wr : Nat} (S : SO ρ h sh wr) (F : Nat → Int64) : SO ρ (s_J h wr F) sh wr := S
theorem units_loop (N : Nat) {ρ : Nat → Nat} {h : hS} {sh wr : Nat} (S : SO ρ h sh wr) {fr many : Nat} (hb : fr + many ≤ 15040) : ∀ (m a fuel : Nat) (F : Nat → Int64), a + m = fr + many → ∃ G, f_Shelf_writeUnits_2 N (m + (fuel + 1)) (s_J h wr F) sh (iI fr) (iI many) (iI a) = some ((), s_J h wr G) ∧ ∀ j, wb (G (j / 64)) (j % 64) = true ↔ (wb (F (j / 64)) (j % 64) = true ∨ (a ≤ j ∧ j < fr + many)) := by
  intro m
  induction m with
  | zero =>
    intro a fuel F ha
    refine ⟨F, ?_, fun j => ⟨Or.inl, fun q => q.elim id (fun z => by omega)⟩⟩
    rw [Nat.zero_add]
    unfold f_Shelf_writeUnits_2
    rw [iI_add, if_pos ((iI_le (by omega) (by omega)).mpr (by omega))]
  | succ m ih =>
    intro a fuel F ha
    obtain ⟨G, e1, e2⟩ := ih (a + 1) fuel (vp_updL F (a / 64) (F (a / 64) ||| ((1 : Int64) <<< ((iI ((a % 64 : Nat) : Int)).toInt64 &&& 63)))) (by omega)
    refine ⟨G, ?_, fun j => ?_⟩
    · rw [show m + 1 + (fuel + 1) = (m + (fuel + 1)) + 1 by omega]
      unfold f_Shelf_writeUnits_2 f_Shelf_writeUnits_46
      have hk : h_k (s_J h wr F) sh = 6 + 1 := S.1.1
      have hr : rj (s_J h wr F) wr 235 := S.2.2.1
      rw [iI_add, if_neg (fun q => absurd ((iI_le (by omega) (by omega)).mp q) (by omega)), dv_ok (by decide), iI_div64 (by omega), bn_i, if_neg (show ¬ iI ((a / 64 : Nat) : Int) < (0 : Int32) from fun q => absurd ((iI_lt (b := 0) (by omega) (by omega)).mp q) (by omega)), gR_k hk, show h_r (s_J h wr F) sh 0 = some wr from S.2.1, lnJ hr, if_neg (fun q => absurd ((iI_le (by omega) (by omega)).mp q) (by omega)), gR_k hk, show h_r (s_J h wr F) sh 0 = some wr from S.2.1, aJ_i hr (by omega) (by omega), dv_ok (by decide), uJ_i hr (by omega) (by omega), s_j_sJ, bn_i]
      rw [show (64 : Int32) = iI 64 from rfl, iI_mul, iI_sub, show (a : Int) - ((a / 64 : Nat) : Int) * 64 = ((a % 64 : Nat) : Int) by omega, show (1 : Int32) = iI 1 from rfl, iI_add, show (a : Int) + 1 = ((a + 1 : Nat) : Int) by omega]
      rw [show h_j (s_J h wr F) wr (a / 64) = F (a / 64) by rw [h_j_sJ, if_pos rfl]]
      exact e1
    · rw [e2 j]
      have hb2 : wb (vp_updL F (a / 64) (F (a / 64) ||| ((1 : Int64) <<< ((iI ((a % 64 : Nat) : Int)).toInt64 &&& 63))) (j / 64)) (j % 64) = true ↔ (wb (F (j / 64)) (j % 64) = true ∨ j = a) := by
        unfold vp_updL
        by_cases hq : j / 64 = a / 64
        · rw [if_pos hq, wb_or _ (by omega) (by omega), hq, Bool.or_eq_true, decide_eq_true_eq]
          constructor
          · intro z; rcases z with z | z
            · exact Or.inl z
            · exact Or.inr (by omega)
          · intro z; rcases z with z | z
            · exact Or.inl z
            · exact Or.inr (by omega)
        · rw [if_neg hq]
          exact ⟨Or.inl, fun z => z.elim id (fun w => absurd (by rw [w]) hq)⟩
      rw [hb2]
      constructor
      · intro z; rcases z with (z | z) | z
        · exact Or.inl z
        · exact Or.inr (by omega)
        · exact Or.inr (by omega)
      · intro z; rcases z with z | z
        · exact Or.inl (Or.inl z)
        · by_cases hja : j = a
          · exact Or.inl (Or.inr hja)
          · exact Or.inr (by omega)
theorem units_is (N : Nat) (hN : 20000 ≤ N) {ρ : Nat → Nat} {h : hS} {sh wr : Nat} (S : SO ρ h sh wr) {fr many : Nat} (hb : fr + many ≤ 15040) (F : Nat → Int64) : ∃ G, f_Shelf_writeUnits N (s_J h wr F) sh (iI fr) (iI many) = some ((), s_J h wr G) ∧ ∀ j, wb (G (j / 64)) (j % 64) = true ↔ (wb (F (j / 64)) (j % 64) = true ∨ (fr ≤ j ∧ j < fr + many)) := by
  obtain ⟨fuel, hfu⟩ : ∃ fuel, N = many + (fuel + 1) := ⟨N - many - 1, by omega⟩
  obtain ⟨G, e1, e2⟩ := units_loop N S hb many fr fuel F rfl
  refine ⟨G, ?_, e2⟩
  unfold f_Shelf_writeUnits
  rw [← hfu] at e1
  exact e1
theorem nb_le : ∀ (K : List (Int × Int)) (p M : Int), srt K → (∀ e ∈ K, p ≤ e.1 ∧ e.1 ≤ M) → p ≤ M → (nb p K : Int) ≤ (M - p) + zSum K := by
  intro K
  induction K with
  | nil => intro p M _ _ h; simp [nb, zSum]; omega
  | cons e t ih =>
    intro p M hs h hM
    have h1 := h e (List.mem_cons_self ..)
    have h2 := ih e.1 M hs.2.2 (fun q hq => ⟨Int.le_of_lt (hs.2.1 q hq), (h q (List.mem_cons_of_mem _ hq)).2⟩) h1.2
    have h3 := hs.1
    rw [nb, zSum]
    omega
section
variable {ρ : Nat → Nat} {l sh wr c : Nat} {L : List (Int × Int)} {lf bt : Int}
theorem write_loop (N : Nat) (hN : 20000 ≤ N) (hl : l ≠ 11) {h : hS} (S : SO ρ h sh wr) (hsw : sh ≠ wr) (C : CR ρ l h c L lf bt) : ∀ (XS : List (Int × Int)) (i at_ fuel : Nat) (p : Int) (F : Nat → Int64), L.drop i = XS → i ≤ L.length → srt XS → (∀ e ∈ XS, p ≤ e.1) → (i = 0 → p = fp L) → (∀ hi : 0 < i, ∃ hi2 : i - 1 < L.length, L[i - 1].1 = p) → at_ + nb p XS ≤ 15040 →
    ∃ G, f_Shelf_write_32 N (XS.length + (fuel + 1)) (s_J h wr F) sh (some c) (iI at_) (iI i) = some ((), s_i (s_J h wr G) sh 1 (iI ((at_ + nb p XS + 63) / 64 : Nat))) ∧ ∀ j, wb (G (j / 64)) (j % 64) = true ↔ (wb (F (j / 64)) (j % 64) = true ∨ SB at_ p XS j) := by
  intro XS
  induction XS with
  | nil =>
    intro i at_ fuel p F hX hi hs hp hp0 hp1 hb
    have h1 := dr_nil hX
    have hlen := C.len
    have T : tr ρ h (rg 11) ρ (s_J h wr F) := tr_sJ S.2.2.2.1
    have C1 := C.keep T (fun q => hl q)
    refine ⟨F, ?_, fun j => ⟨Or.inl, fun q => q.elim id (fun z => z.elim)⟩⟩
    rw [List.length_nil, Nat.zero_add]
    unfold f_Shelf_write_32
    have hk : h_k (s_J h wr F) sh = 6 + 1 := S.1.1
    have hr : rj (s_J h wr F) wr 235 := S.2.2.1
    rw [nb] at hb ⊢
    rw [gI_k C1.k, C1.f.1, if_pos ((iI_le (by omega) (by omega)).mpr (by omega)), dv_ok (by decide), gR_k hk, show h_r (s_J h wr F) sh 0 = some wr from S.2.1, lnJ hr, show iI (at_ : Int) + (64 : Int32) - (1 : Int32) = iI ((at_ + 63 : Nat) : Int) from by rw [show (64 : Int32) = iI 64 from rfl, show (1 : Int32) = iI 1 from rfl, iI_add, iI_sub]; congr 1; omega, iI_div64 (by omega), jmn_is (by omega) (by omega), pI_k hk, show min (((at_ + 63) / 64 : Nat) : Int) ((235 : Nat) : Int) = ((at_ + 0 + 63) / 64 : Nat) by omega]
  | cons e t ih =>
    intro i at_ fuel p F hX hi hs hp hp0 hp1 hb
    obtain ⟨hi2, he, ht⟩ := dr_cons hX
    have hlen := C.len
    have hw := C.ok.w (List.getElem_mem hi2)
    have hpl := C.ok.1 _ (List.getElem_mem hi2)
    rw [he] at hw hpl
    have hpe := hp e (List.mem_cons_self ..)
    rw [nb] at hb ⊢
    have T : ∀ F, tr ρ h (rg 11) ρ (s_J h wr F) := fun F => tr_sJ S.2.2.2.1
    have C1 := C.keep (T F) (fun q => hl q)
    obtain ⟨G1, u1, u2⟩ := units_is N hN S (fr := at_ + (e.1 - p).toNat) (many := e.2.toNat) (by omega) F
    have C2 := C.keep (T G1) (fun q => hl q)
    obtain ⟨G2, v1, v2⟩ := ih (i + 1) (at_ + (e.1 - p).toNat + e.2.toNat) fuel e.1 G1 ht (by omega) hs.2.2 (fun q hq => Int.le_of_lt (hs.2.1 q hq)) (fun q => by omega) (fun _ => ⟨by omega, by show L[i].1 = e.1; rw [he]⟩) (by omega)
    have hkF : ∀ F, h_k (s_J h wr F) sh = 6 + 1 := fun F => S.1.1
    have hfin : f_Shelf_write_62 N (f_Shelf_write_32 N (t.length + (fuel + 1))) (s_J h wr F) sh (some c) (iI i) (iI at_) (iI (e.1 - p)) = f_Shelf_write_32 N (t.length + (fuel + 1)) (s_J h wr G1) sh (some c) (iI ((at_ + (e.1 - p).toNat + e.2.toNat : Nat) : Int)) (iI ((i + 1 : Nat) : Int)) := by
      unfold f_Shelf_write_62
      rw [iI_add, show (at_ : Int) + (e.1 - p) = ((at_ + (e.1 - p).toNat : Nat) : Int) by omega, bn_i, cv_k C1.k, weightOf_in N C1 hi2, he, cl_s, cv_k (hkF F), show e.2 = (e.2.toNat : Int) by omega, u1, cl_s, cv_k C2.k, weightOf_in N C2 hi2, he, cl_s, show e.2 = (e.2.toNat : Int) by omega, iI_add, bn_i, bn_i, show (1 : Int32) = iI 1 from rfl, iI_add]
      congr 1
    refine ⟨G2, ?_, fun j => ?_⟩
    · rw [List.length_cons, show t.length + 1 + (fuel + 1) = (t.length + (fuel + 1)) + 1 by omega]
      rw [show at_ + ((e.1 - p).toNat + e.2.toNat + nb e.1 t) + 63 = at_ + (e.1 - p).toNat + e.2.toNat + nb e.1 t + 63 by omega, ← v1, ← hfin]
      generalize hG : f_Shelf_write_62 = G0
      generalize hR0 : f_Shelf_write_32 N (t.length + (fuel + 1)) = R0
      unfold f_Shelf_write_32
      rw [gI_k C1.k, C1.f.1, if_neg (fun q => absurd ((iI_le (by omega) (by omega)).mp q) (by omega)), hG, hR0]
      by_cases h0 : i = 0
      · subst h0
        have hpp := hp0 rfl
        have hfe : fp L = e.1 := by
          cases L with
          | nil => simp at hi2
          | cons a t' => simp at he; subst he; rfl
        rw [if_pos (show iI ((0 : Nat) : Int) = (0 : Int32) from rfl), show e.1 - p = 0 by rw [hpp, hfe]; omega]
        rfl
      · obtain ⟨hq, hq1⟩ := hp1 (by omega)
        rw [if_neg (show ¬ iI (i : Int) = (0 : Int32) from fun q => h0 (by have := (iI_eq (b := 0) (by omega) (by omega)).mp q; omega)), cv_k C1.k, placeOf_in N C1 hi2, he, cl_s, cv_k C1.k, show (1 : Int32) = iI 1 from rfl, iI_sub, show (i : Int) - 1 = ((i - 1 : Nat) : Int) by omega, placeOf_in N C1 hq, hq1, cl_s, iI_sub]
    · rw [v2 j, u2 j]
      show _ ↔ (_ ∨ (_ ∨ _))
      rw [or_assoc]
end
