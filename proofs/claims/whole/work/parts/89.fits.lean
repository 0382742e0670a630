/-- a table holds what is noted -/
def zHold (S : StT) (Z : Nat → Int) : Prop := ∀ k, k < S.2.2.2.1 → lI (zVal Z (S.2.2.2.2.1 k)) = S.2.2.2.2.2.1 k
/-- the weight w fits what is noted -/
def zFit (S : StT) (i : Nat) (w : Int) : Prop := zGoes S.1 0 i w ∧ zHold S (zT (pW (S.1 0).2.1 i w) (S.1 0).2.2 (-1) (S.1 0).1)
/-- how many of m weights from w on, and the first of them -/
def fC (f : Nat → Bool) : Nat → Nat → Int × Int
  | 0, _ => (0, -1)
  | m + 1, w => if f w then ((fC f m (w + 1)).1 + 1, (w : Int)) else fC f m (w + 1)
theorem fC_rng (f : Nat → Bool) : ∀ (m w : Nat), 0 ≤ (fC f m w).1 ∧ (fC f m w).1 ≤ m := by
  intro m
  induction m with
  | zero => intro w; simp [fC]
  | succ m ih =>
    intro w
    have := ih (w + 1)
    rw [fC]
    split
    · simp only []; omega
    · omega
section
variable {ρ : Nat → Nat} {h : hS} {Q : Nat → Nat} {F : FT} {ks : List Nat} {α : Type}
theorem hold_loop (N : Nat) (hN : 20000 ≤ N) (K : KS ρ h Q F ks) {l cu : Nat} {Z : Nat → Int} (cz : CZ ρ l h cu Z) : ∀ (m k fuel : Nat), k + m = F.1.2.2.2.1 → ∃ v, f_State_holdsNotes_2 N (m + (fuel + 1)) h (Q 16) (some cu) (iI k) = some (v, h) ∧ ((v = 1 ∧ ∀ j, k ≤ j → j < F.1.2.2.2.1 → lI (zVal Z (F.1.2.2.2.2.1 j)) = F.1.2.2.2.2.2.1 j) ∨ (v = 0 ∧ ¬ ∀ j, k ≤ j → j < F.1.2.2.2.1 → lI (zVal Z (F.1.2.2.2.2.1 j)) = F.1.2.2.2.2.2.1 j)) := by
  obtain ⟨X, V⟩ := K.2.2.2.1
  have h16 : h_k h (Q 16) = 7 + 1 := (K.so (i := 16) (k := 8) (l := 100) (n := 0) (by decide)).1
  have h35 := K.so (i := 35) (k := 50) (l := 100) (n := 8) (by decide)
  have h36 := K.so (i := 36) (k := 51) (l := 100) (n := 8) (by decide)
  have n8 := V.2.2.2.1
  intro m
  induction m with
  | zero =>
    intro k fuel hk
    refine ⟨1, ?_, Or.inl ⟨rfl, fun j h1 h2 => by omega⟩⟩
    rw [Nat.zero_add]
    unfold f_State_holdsNotes_2 f_State_holdsNotes_44
    rw [gI_k h16, X.2.1.2, if_pos ((iI_le (by omega) (by omega)).mpr (by omega)), bz_1]
  | succ m ih =>
    intro k fuel hk
    have hx := V.2.2.2.2 k (by omega)
    have hn := X.2.2.2.2.2.1 k (by omega)
    rw [show m + 1 + (fuel + 1) = (m + (fuel + 1)) + 1 by omega]
    unfold f_State_holdsNotes_2 f_State_holdsNotes_44
    rw [gI_k h16, X.2.1.2, if_neg (show ¬ iI F.1.2.2.2.1 ≤ iI k from fun z => absurd ((iI_le (by omega) (by omega)).mp z) (by omega)), if_neg (show ¬ (8 : Int32) ≤ iI k from fun z => absurd ((iI_le (a := 8) (by omega) (by omega)).mp z) (by omega)), gR_k h16, K.sref (i := 16) (k := 4) (j := 35) (by decide), aI_iI (n := 8) ⟨h35.1, h35.2⟩ (by omega) (by omega) (by omega), Int.toNat_natCast, hn.1, cv_k cz.1.k, cval_is N (by omega) cz.1 (by omega), cl_s, kv_val cz.2.1, gR_k h16, K.sref (i := 16) (k := 5) (j := 36) (by decide), aJ_i (n := 8) ⟨h36.1, h36.2⟩ (by omega) (by omega), hn.2]
    by_cases e : lI (zVal Z (F.1.2.2.2.2.1 k)) = F.1.2.2.2.2.2.1 k
    · rw [if_pos ((lg_eq0 _ _).mpr e), bn_i, show (1 : Int32) = iI 1 from rfl, iI_add, show (k : Int) + 1 = ((k + 1 : Nat) : Int) by omega]
      obtain ⟨v, v1, v2⟩ := ih (k + 1) fuel (by omega)
      refine ⟨v, v1, ?_⟩
      rcases v2 with ⟨a, b⟩ | ⟨a, b⟩
      · refine Or.inl ⟨a, fun j h1 h2 => ?_⟩
        by_cases hj : j = k
        · rw [hj]; exact e
        · exact b j (by omega) h2
      · exact Or.inr ⟨a, fun z => b (fun j h1 h2 => z j (by omega) h2)⟩
    · rw [if_neg (fun z => e ((lg_eq0 _ _).mp z)), bz_0]
      exact ⟨0, rfl, Or.inr ⟨rfl, fun z => e (z k (Nat.le_refl _) (by omega))⟩⟩
theorem hold_is (N : Nat) (hN : 20000 ≤ N) (K : KS ρ h Q F ks) {l cu : Nat} {Z : Nat → Int} (cz : CZ ρ l h cu Z) : ∃ v, f_State_holdsNotes N h (Q 16) (some cu) = some (v, h) ∧ ((v = 1 ∧ zHold F.1 Z) ∨ (v = 0 ∧ ¬ zHold F.1 Z)) := by
  have n8 := K.2.2.2.1.2.2.2.2.1
  obtain ⟨fuel, hfu⟩ : ∃ fuel, N = F.1.2.2.2.1 + (fuel + 1) := ⟨N - F.1.2.2.2.1 - 1, by omega⟩
  obtain ⟨v, v1, v2⟩ := hold_loop N hN K cz F.1.2.2.2.1 0 fuel (by omega)
  rw [← hfu] at v1
  refine ⟨v, v1, ?_⟩
  rcases v2 with ⟨a, b⟩ | ⟨a, b⟩
  · exact Or.inl ⟨a, fun k hk => b k (Nat.zero_le _) hk⟩
  · exact Or.inr ⟨a, fun z => b (fun j _ h2 => z j h2)⟩
theorem weighed_K (N : Nat) (K : KS ρ h Q F ks) {i w : Int} (hi : i32 i) (hw : i32 w) (a : α) (k : Int32) (f : hS → Option ((α ⊕ Nat) × hS)) (h1 : ¬ ((isSt F.1.1 0 i ∧ ((F.1.1 0).2.1 i.toNat).1 ≤ 2) ∧ (0 ≤ w ∧ w ≤ 1)) → k = 1) (h2 : isSt F.1.1 0 i → ((F.1.1 0).2.1 i.toNat).1 ≤ 2 → (w = 0 ∨ w = 1) → KE ρ h Q F ks a k (f h)) : KE ρ h Q F ks a k (cvT h (some (Q 0)) 12 (fun a => f_K_needWeighted N h a (iI i) (iI w)) fun _ g => f g) := by
  unfold i32 at hw
  rw [cvT_k K.x.1]
  unfold f_K_needWeighted f_K_needWeighted_6 f_K_needWeighted_22 f_K_needWeighted_26 f_K_needWeighted_27 f_K_needWeighted_30
  rw [cvT_k K.x.1, show (0 : Int32) = iI 0 from rfl]
  by_cases q : isSt F.1.1 0 i
  · obtain ⟨st, s1, s2⟩ := step_y N K q
    have k0 := s2.2.2.1.1
    rw [s1, clT_l, gI_k (show h_k h st = 8 + 1 from s2.1.1), s2.2.1.1]
    by_cases hkd : ((F.1.1 0).2.1 i.toNat).1 ≤ 2
    · rw [if_neg (show ¬ (2 : Int32) < iI ((F.1.1 (0 : Int).toNat).2.1 i.toNat).1 from fun z => absurd ((iI_lt (a := 2) (by omega) (by omega)).mp z) (by have : (0 : Int).toNat = 0 := rfl; rw [this]; omega))]
      by_cases w0 : w = 0
      · rw [if_pos (show iI w = iI 0 by rw [w0]), such_1, clT_l, clT_l]
        exact h2 q hkd (Or.inl w0)
      · rw [if_neg (show ¬ iI w = iI 0 from fun z => w0 ((iI_eq (b := 0) hw (by omega)).mp z))]
        by_cases w1 : w = 1
        · rw [if_pos (show iI w = (1 : Int32) by rw [w1]; rfl), such_1, clT_l, clT_l]
          exact h2 q hkd (Or.inr w1)
        · rw [if_neg (show ¬ iI w = (1 : Int32) from fun z => w1 ((iI_eq (b := 1) hw (by omega)).mp z)), show iI 0 = (0 : Int32) from rfl, such_0, clT_r, clT_r, h1 (fun z => by omega)]
          exact KE.t1 K rfl
    · rw [if_pos (show (2 : Int32) < iI ((F.1.1 (0 : Int).toNat).2.1 i.toNat).1 from (iI_lt (a := 2) (by omega) (by omega)).mpr (by have : (0 : Int).toNat = 0 := rfl; rw [this]; omega)), show iI 0 = (0 : Int32) from rfl, such_0, clT_r, clT_r, h1 (fun z => hkd z.1.2)]
      exact KE.t1 K rfl
  · rw [step_n N K (show i32 0 by unfold i32; omega) hi q, clT_r, clT_r, h1 (fun z => q z.1.1)]
    exact KE.t1 K rfl
/-- one weight is tried: it goes and holds, or not -/
theorem try_is (N : Nat) (hN : 20000 ≤ N) (K : KS ρ h Q F ks) {i : Nat} (hi : i < (F.1.1 0).1) (hkd : ((F.1.1 0).2.1 i).1 ≤ 2) (C4 : CZ ρ 4 h (Q 24) (zT (F.1.1 0).2.1 (F.1.1 0).2.2 (-1) i)) {w : Nat} (hw : w ≤ 40) : ∃ ρ1 g1, ∃ v : Int32, f_Bench_goThrough N h (Q 4) (some (Q 40)) (iI i) (iI w) = some (v, g1) ∧ KS ρ1 g1 Q F ks ∧ tr ρ h RA ρ1 g1 ∧ hm g1 + brs g1 (Q 4) ≤ hm h + brs h (Q 4) ∧ CZ ρ1 4 g1 (Q 24) (zT (F.1.1 0).2.1 (F.1.1 0).2.2 (-1) i) ∧ ((v = 0 ∧ ¬ zGoes F.1.1 0 i w) ∨ (v = 1 ∧ zGoes F.1.1 0 i w ∧ ∃ cu l, h_k g1 (Q 4) = 1 + 1 ∧ h_r g1 (Q 4) 0 = some cu ∧ (l = 2 ∨ l = 3) ∧ CZ ρ1 l g1 cu (zT (pW (F.1.1 0).2.1 i w) (F.1.1 0).2.2 (-1) (F.1.1 0).1))) := by
  have ch := K.ch (c := 0) (by omega)
  obtain ⟨ρ1, g1, v, a1, a2, a3, a4, a5⟩ := with_is N hN (l := 101 + (0 : Int).toNat) (fun q => by unfold RB at q; simp at q) hi (K.v (c := 0) (by omega)).2.2 hkd (w := (w : Int)) (by omega) ch K.2.1.1 C4
  have C41 := C4.keep a2 (fun q => by unfold RW at q; omega)
  have T1 := a2.mono (fun q z => RA_B q (RW_B q z))
  by_cases hok : zGoes F.1.1 0 i (w : Int)
  · obtain ⟨v1, S1⟩ := a4 hok
    have K1 := K.askB (a2.mono RW_B) S1.x
    have h41 := K1.ko (i := 4) (k := 2) (l := 1) (n := 0) (by decide)
    obtain ⟨w0, s, lw, ls, B, cz, _⟩ := S1
    exact ⟨ρ1, g1, v, a1, K1, T1, a3, C41, Or.inr ⟨v1, hok, w0, lw, h41.1, B.2.1.1, by have := B.2.2; omega, cz⟩⟩
  · obtain ⟨v1, S1⟩ := a5 hok
    have K1 := K.askB (a2.mono RW_B) S1
    exact ⟨ρ1, g1, v, a1, K1, T1, a3, C41, Or.inl ⟨v1, hok⟩⟩
theorem fits_loop (N : Nat) (hN : 20000 ≤ N) {i : Nat} (hi : i < (F.1.1 0).1) (hkd : ((F.1.1 0).2.1 i).1 ≤ 2) {b : Int} (hb : b = 0 ∨ b = 1) {f : Nat → Bool} (hf : ∀ w, w ≤ 40 → (f w = true ↔ zFit F.1 i w)) : ∀ (m w : Nat) (ρ : Nat → Nat) (h : hS) (many first : Int) (fuel : Nat), w + m = 41 → KS ρ h Q F ks → CZ ρ 4 h (Q 24) (zT (F.1.1 0).2.1 (F.1.1 0).2.2 (-1) i) → (0 ≤ many ∧ many + m ≤ 100) → KE ρ h Q F ks (iI (if b = 0 then many + (fC f m w).1 else if many = 0 then (fC f m w).2 else first)) 0 (f_K_fits_30 N (m + (fuel + 1)) h (Q 0) (iI i) (iI b) (some (Q 40)) (iI many) (iI (if many = 0 then -1 else first)) (iI w)) := by
  intro m
  induction m with
  | zero =>
    intro w ρ h many first fuel hw K C4 hm
    rw [Nat.zero_add]
    unfold f_K_fits_30 f_K_fits_102
    rw [if_pos (show (40 : Int32) < iI w from (iI_lt (a := 40) (by omega) (by omega)).mpr (by omega)), fC]
    rcases hb with e | e <;> subst e
    · rw [if_pos (show iI 0 = (0 : Int32) from rfl), if_pos rfl, Int.add_zero]
      exact KE.ok K rfl
    · rw [if_neg (show ¬ iI 1 = (0 : Int32) by decide), if_neg (by decide)]
      exact KE.ok K rfl
  | succ m ih =>
    intro w ρ h many first fuel hw K C4 hm
    have h4 := K.ko (i := 4) (k := 2) (l := 1) (n := 0) (by decide)
    obtain ⟨ρ1, g1, v, a1, K1, T1, m1, C41, hv⟩ := try_is N hN K hi hkd C4 (w := w) (by omega)
    have hr := fC_rng f m (w + 1)
    rw [show m + 1 + (fuel + 1) = (m + (fuel + 1)) + 1 by omega]
    have no : (¬ zFit F.1 i w) → ∀ r, r = f_K_fits_30 N (m + (fuel + 1)) g1 (Q 0) (iI i) (iI b) (some (Q 40)) (iI many) (iI (if many = 0 then -1 else first)) (iI ((w + 1 : Nat) : Int)) → KE ρ h Q F ks (iI (if b = 0 then many + (fC f (m + 1) w).1 else if many = 0 then (fC f (m + 1) w).2 else first)) 0 r := by
      intro hn r hr
      rw [hr, fC, if_neg (fun z => hn ((hf w (by omega)).mp z))]
      exact KE.go T1 m1 (ih (w + 1) ρ1 g1 many first fuel (by omega) K1 C41 (by omega))
    have en : iI w + (1 : Int32) = iI ((w + 1 : Nat) : Int) := by rw [show (1 : Int32) = iI 1 from rfl, iI_add]; rfl
    rcases hv with ⟨v0, hng⟩ | ⟨v1, hgo, cu, l, k4, r4, _, cz⟩
    · refine no (fun z => hng z.1) _ ?_
      generalize hR : f_K_fits_30 N (m + (fuel + 1)) = R
      unfold f_K_fits_30 f_K_fits_48 f_K_fits_85
      rw [hR, if_neg (show ¬ (40 : Int32) < iI w from fun z => absurd ((iI_lt (a := 40) (by omega) (by omega)).mp z) (by omega)), gR_k K.x.1, K.ref (i := 0) (k := 4) (j := 4) (by decide), cv_k (show h_k h (Q 4) = 1 + 1 from h4.1), a1, cl_s, v0, if_pos rfl, bn_i, en]
    · obtain ⟨u, u1, u2⟩ := hold_is N hN K1 cz
      have h16 : h_k g1 (Q 16) = 7 + 1 := (K1.so (i := 16) (k := 8) (l := 100) (n := 0) (by decide)).1
      have st : f_K_fits_30 N (m + (fuel + 1) + 1) h (Q 0) (iI i) (iI b) (some (Q 40)) (iI many) (iI (if many = 0 then -1 else first)) (iI w) = if u = 0 then f_K_fits_30 N (m + (fuel + 1)) g1 (Q 0) (iI i) (iI b) (some (Q 40)) (iI many) (iI (if many = 0 then -1 else first)) (iI ((w + 1 : Nat) : Int)) else f_K_fits_30 N (m + (fuel + 1)) g1 (Q 0) (iI i) (iI b) (some (Q 40)) (iI (many + 1)) (iI (if many = 0 then (w : Int) else first)) (iI ((w + 1 : Nat) : Int)) := by
        generalize hR : f_K_fits_30 N (m + (fuel + 1)) = R
        unfold f_K_fits_30 f_K_fits_48 f_K_fits_80 f_K_fits_85
        rw [hR, if_neg (show ¬ (40 : Int32) < iI w from fun z => absurd ((iI_lt (a := 40) (by omega) (by omega)).mp z) (by omega)), gR_k K.x.1, K.ref (i := 0) (k := 4) (j := 4) (by decide), cv_k (show h_k h (Q 4) = 1 + 1 from h4.1), a1, cl_s, v1, if_neg (by decide), gR_k K1.x.1, K1.ref (i := 0) (k := 16) (j := 16) (by decide), gR_k K1.x.1, K1.ref (i := 0) (k := 4) (j := 4) (by decide), gR_k k4, r4, cv_k h16, u1, cl_s, bn_i, en, bn_i, bn_i, bn_i, bn_i, show iI many + (1 : Int32) = iI (many + 1) by rw [show (1 : Int32) = iI 1 from rfl, iI_add]]
        by_cases m0 : many = 0
        · rw [if_pos (show iI many = (0 : Int32) by rw [m0]; rfl), if_pos m0, if_pos m0]
        · rw [if_neg (show ¬ iI many = (0 : Int32) from fun z => m0 ((iI_eq (b := 0) (by omega) (by omega)).mp z)), if_neg m0, if_neg m0]
      rcases u2 with ⟨e, ho⟩ | ⟨e, hno⟩
      · rw [st, e, if_neg (show ¬ (1 : Int32) = 0 by decide), fC, if_pos ((hf w (by omega)).mpr ⟨hgo, ho⟩)]
        have := ih (w + 1) ρ1 g1 (many + 1) (if many = 0 then (w : Int) else first) fuel (by omega) K1 C41 (by omega)
        rw [if_neg (show ¬ many + 1 = 0 by omega)] at this
        refine KE.go T1 m1 ?_
        rw [if_neg (show ¬ many + 1 = 0 by omega)] at this
        simp only []
        rw [show many + ((fC f m (w + 1)).1 + 1) = many + 1 + (fC f m (w + 1)).1 by omega]
        exact this
      · exact no (fun z => hno z.2) _ (by rw [st, e, if_pos rfl])
theorem fits_K (N : Nat) (hN : 20000 ≤ N) (K : KS ρ h Q F ks) {i b : Int} (hi : i32 i) (hb : i32 b) {f : Nat → Bool} : (¬ ((isSt F.1.1 0 i ∧ ((F.1.1 0).2.1 i.toNat).1 ≤ 2) ∧ (0 ≤ b ∧ b ≤ 1)) → KE ρ h Q F ks (0 : Int32) 1 (f_K_fits N h (Q 0) (iI i) (iI b))) ∧ ((isSt F.1.1 0 i ∧ ((F.1.1 0).2.1 i.toNat).1 ≤ 2) ∧ (0 ≤ b ∧ b ≤ 1) → (∀ w, w ≤ 40 → (f w = true ↔ zFit F.1 i.toNat w)) → KE ρ h Q F ks (if b = 0 then iI (fC f 41 0).1 else iI (fC f 41 0).2) 0 (f_K_fits N h (Q 0) (iI i) (iI b))) := by
  unfold f_K_fits
  refine ⟨fun hn => weighed_K N K hi hb _ _ (fun h2 => f_K_fits_6 N h2 (Q 0) (iI i) (iI b)) (fun _ => rfl) (fun q hkd hb2 => absurd ⟨⟨q, hkd⟩, by omega⟩ hn), fun hcond hf => ?_⟩
  refine weighed_K N K hi hb _ _ (fun h2 => f_K_fits_6 N h2 (Q 0) (iI i) (iI b)) (fun q => absurd hcond q) (fun q hkd hb2 => ?_)
  unfold f_K_fits_6 f_K_fits_11 f_K_fits_27
  have hin : i.toNat < (F.1.1 0).1 := by have := q.2; have e : (0 : Int).toNat = 0 := rfl; rw [e] at this; omega
  have h4 := K.ko (i := 4) (k := 2) (l := 1) (n := 0) (by decide)
  obtain ⟨ρ1, g1, a1, a2, a3, a4, a5⟩ := stand_is N hN (l := 101 + (0 : Int).toNat) (fun z => by unfold RB at z; simp at z) (Nat.le_of_lt hin) (K.v (c := 0) (by omega)).2.2 (K.ch (c := 0) (by omega)) K.2.1.1
  obtain ⟨K1, T1⟩ := K.goB a2 a4.x
  obtain ⟨fuel, hfu⟩ : ∃ fuel, N = 41 + (fuel + 1) := ⟨N - 42, by omega⟩
  have := fits_loop N hN hin hkd hb2 hf 41 0 ρ1 g1 0 0 fuel (by omega) K1 a5 (by omega)
  rw [← hfu, show (i.toNat : Int) = i by have := q.2; omega, Int.zero_add] at this
  rw [show (i.toNat : Int) = i by have := q.2; omega] at a1
  rw [show (0 : Int32) = iI 0 from rfl, cvT_k K.x.1, chain_y N K (c := 0) (by omega), clT_l, gR_k K.x.1, K.ref (i := 0) (k := 4) (j := 4) (by decide), cv_k (show h_k h (Q 4) = 1 + 1 from h4.1), a1, cl_s]
  refine KE.go T1 a3 ?_
  have e2 : (if b = 0 then iI (fC f 41 0).1 else iI (fC f 41 0).2) = iI (if b = 0 then (fC f 41 0).1 else (fC f 41 0).2) := by split <;> rfl
  rw [e2]
  exact this
end
