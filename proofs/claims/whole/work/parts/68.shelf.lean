theorem tr.ni {ρ ρ' : Nat → Nat} {h g : hS} {R : Nat → Prop} (t : tr ρ h R ρ' g) {a k : Nat} {v : Int32} (ha : h_x h ≤ a) : tr ρ h R ρ' (s_i g a k v) := ⟨t.1, fun q hq => by
  obtain ⟨a1, a2, a3, a4⟩ := t.2 q hq
  exact ⟨a1, a2, a3, fun hR => ⟨by rw [h_i_si, if_neg (by omega)]; exact (a4 hR).1, (a4 hR).2.1, (a4 hR).2.2⟩⟩⟩
theorem tr.nj {ρ ρ' : Nat → Nat} {h g : hS} {R : Nat → Prop} (t : tr ρ h R ρ' g) {a k : Nat} {v : Int64} (ha : h_x h ≤ a) : tr ρ h R ρ' (s_j g a k v) := ⟨t.1, fun q hq => by
  obtain ⟨a1, a2, a3, a4⟩ := t.2 q hq
  exact ⟨a1, a2, a3, fun hR => ⟨(a4 hR).1, by rw [h_j_sj, if_neg (by omega)]; exact (a4 hR).2.1, (a4 hR).2.2⟩⟩⟩
theorem tr.nr {ρ ρ' : Nat → Nat} {h g : hS} {R : Nat → Prop} (t : tr ρ h R ρ' g) {a k : Nat} {v : Option Nat} (ha : h_x h ≤ a) : tr ρ h R ρ' (s_r g a k v) := ⟨t.1, fun q hq => by
  obtain ⟨a1, a2, a3, a4⟩ := t.2 q hq
  exact ⟨a1, a2, a3, fun hR => ⟨(a4 hR).1, (a4 hR).2.1, by rw [h_r_sr, if_neg (by omega)]; exact (a4 hR).2.2⟩⟩⟩
theorem tr.nJ {ρ ρ' : Nat → Nat} {h g : hS} {R : Nat → Prop} (t : tr ρ h R ρ' g) {a : Nat} {F : Nat → Int64} (ha : h_x h ≤ a) : tr ρ h R ρ' (s_J g a F) := ⟨t.1, fun q hq => by
  obtain ⟨a1, a2, a3, a4⟩ := t.2 q hq
  exact ⟨a1, a2, a3, fun hR => ⟨(a4 hR).1, by rw [h_j_sJ, if_neg (by omega)]; exact (a4 hR).2.1, (a4 hR).2.2⟩⟩⟩
/-- the chain of keepsakes -/
def KC (ρ : Nat → Nat) (h : hS) : Option Nat → List Nat → Prop
  | o, [] => o = none
  | o, k :: t => o = some k ∧ (∃ L lf bt, KP ρ h k L lf bt) ∧ KC ρ h (h_r h k 5) t
theorem KC.keep {ρ ρ' : Nat → Nat} {h g : hS} {R : Nat → Prop} (t : tr ρ h R ρ' g) (hR : ¬ R 9) : ∀ {ks : List Nat} {o : Option Nat}, KC ρ h o ks → KC ρ' g o ks := by
  intro ks
  induction ks with
  | nil => intro o q; exact q
  | cons k ks ih =>
    intro o ⟨q1, ⟨L, lf, bt, q2⟩, q3⟩
    refine ⟨q1, ⟨L, lf, bt, q2.keep t hR⟩, ?_⟩
    obtain ⟨bb, z, _⟩ := q2
    obtain ⟨a1, a2, a3, a4⟩ := t.2 k z.2.2
    rw [(a4 (by rw [z.2.1]; exact hR)).2.2]
    exact ih q3
def SH (ρ : Nat → Nat) (h : hS) (sh : Nat) (ks : List Nat) : Prop := ∃ wr, (h_k h sh = 7 ∧ ρ sh = 11 ∧ sh < h_x h) ∧ (h_r h sh 0 = some wr ∧ h_k h wr = 51 ∧ ρ wr = 11 ∧ wr < h_x h ∧ (h_n h wr = 0 ∨ h_n h wr = 235)) ∧ KC ρ h (h_r h sh 2) ks
theorem SH.keep {ρ ρ' : Nat → Nat} {h g : hS} {R : Nat → Prop} {sh : Nat} {ks : List Nat} (S : SH ρ h sh ks) (t : tr ρ h R ρ' g) (h9 : ¬ R 9) (h11 : ¬ R 11) : SH ρ' g sh ks := by
  obtain ⟨wr, q1, q2, q3⟩ := S
  obtain ⟨a1, a2, a3, a4⟩ := t.2 sh q1.2.2
  obtain ⟨b1, b2, b3, b4⟩ := t.2 wr q2.2.2.2.1
  obtain ⟨a5, a6, a7⟩ := a4 (by rw [q1.2.1]; exact h11)
  have ht := t.1
  refine ⟨wr, ⟨a1.trans q1.1, a3.trans q1.2.1, by omega⟩, ⟨by rw [a7]; exact q2.1, b1.trans q2.2.1, b3.trans q2.2.2.1, by omega, by rw [b2]; exact q2.2.2.2.2⟩, ?_⟩
  rw [a7]
  exact KC.keep t h9 q3
/-- the room that the shelf's row may take yet -/
def rsh (h : hS) (sh : Nat) : Nat := match h_r h sh 0 with
  | some wr => if h_n h wr = 0 then 248 else 0
  | none => 0
theorem rsh_of {h : hS} {sh wr : Nat} (q : h_r h sh 0 = some wr) : rsh h sh = if h_n h wr = 0 then 248 else 0 := by unfold rsh; rw [q]
section
variable {ρ : Nat → Nat} {l sh c : Nat} {L : List (Int × Int)} {lf bt : Int}
theorem write_20 (N : Nat) (hN : 20000 ≤ N) (hl : l ≠ 11) {h : hS} {wr : Nat} (S : SO ρ h sh wr) (C : CR ρ l h c L lf bt) (hL : srt L) (hp : ∀ e ∈ L, -5000 ≤ e.1 ∧ e.1 ≤ 5000) (hs : zSum L ≤ 5000) : ∃ g words, f_Shelf_write_20 N h sh (some c) = some ((), g) ∧ tr ρ h (rg 11) ρ g ∧ SO ρ g sh wr ∧ h_r g sh 2 = h_r h sh 2 ∧ h_i g sh 1 = iI (words : Nat) ∧ words ≤ 235 ∧ ENC (bF (h_j g wr) words) 0 (fp L) L ∧ hm g = hm h := by
  have hsw : sh ≠ wr := fun e => by have := S.1.1; rw [e, S.2.2.1.1] at this; cases this
  obtain ⟨F, f1, f2⟩ := fillJ_is N S.2.2.1 (by omega) (by omega) 0
  have hfp : ∀ e ∈ L, fp L ≤ e.1 := by
    cases L with
    | nil => intro e he; cases he
    | cons a t =>
      intro e he
      rcases List.mem_cons.mp he with rfl | he
      · exact Int.le_refl _
      · exact Int.le_of_lt (hL.2.1 e he)
  have hf5 : -5000 ≤ fp L ∧ fp L ≤ 5000 := by
    cases L with
    | nil => show -5000 ≤ (0 : Int) ∧ (0 : Int) ≤ 5000; omega
    | cons a t => exact hp a (List.mem_cons_self ..)
  have hnb := nb_le L (fp L) 5000 hL (fun e he => ⟨hfp e he, (hp e he).2⟩) hf5.2
  obtain ⟨fuel, hfu⟩ : ∃ fuel, N = L.length + (fuel + 1) := ⟨N - L.length - 1, by have := C.len; omega⟩
  obtain ⟨G, e1, e2⟩ := write_loop N hN hl S hsw C L 0 0 fuel (fp L) F (List.drop_zero ..) (Nat.zero_le _) hL hfp (fun _ => rfl) (fun q => absurd q (by omega)) (by omega)
  have hkJ : h_k (s_J h wr G) sh = 7 := S.1.1
  refine ⟨s_i (s_J h wr G) sh 1 (iI ((0 + nb (fp L) L + 63) / 64 : Nat)), (0 + nb (fp L) L + 63) / 64, ?_, (tr_sJ S.2.2.2.1).trans (tr_si S.1.2.1), S, rfl, ?_, by omega, ?_, rfl⟩
  · unfold f_Shelf_write_20
    rw [gR_k (show h_k h sh = 6 + 1 from S.1.1), S.2.1, f1, cl_s]
    rw [← hfu] at e1
    exact e1
  · simp [h_i_si, upd]
  · refine enc_SB L 0 (fp L) (fun j _ => ?_) (fun e he => ⟨hfp e he, srt_pos hL e he⟩) hL
    have hj : h_j (s_i (s_J h wr G) sh 1 (iI ((0 + nb (fp L) L + 63) / 64 : Nat))) wr = G := by
      show h_j (s_J h wr G) wr = G
      rw [h_j_sJ, if_pos rfl]
    rw [hj]
    unfold bF
    rw [Bool.and_eq_true, decide_eq_true_eq, e2 j]
    constructor
    · intro ⟨q1, q2⟩
      rcases q2 with q2 | q2
      · rw [f2 (j / 64) (by omega), wb_0] at q2; cases q2
      · exact q2
    · intro q
      have := SB_rng _ _ _ _ q
      exact ⟨by omega, Or.inr q⟩
theorem write_is (N : Nat) (hN : 20000 ≤ N) (hl : l ≠ 11) {h : hS} {ks : List Nat} (S : SH ρ h sh ks) (C : CR ρ l h c L lf bt) (hL : srt L) (hp : ∀ e ∈ L, -5000 ≤ e.1 ∧ e.1 ≤ 5000) (hs : zSum L ≤ 5000) : ∃ ρ' g wr words, f_Shelf_write N h sh (some c) = some ((), g) ∧ tr ρ h (rg 11) ρ' g ∧ SO ρ' g sh wr ∧ h_r g sh 2 = h_r h sh 2 ∧ h_i g sh 1 = iI (words : Nat) ∧ words ≤ 235 ∧ ENC (bF (h_j g wr) words) 0 (fp L) L ∧ hm g ≤ hm h + rsh h sh := by
  obtain ⟨wr, q1, q2, q3⟩ := S
  have hrs := rsh_of q2.1
  unfold f_Shelf_write
  rw [gR_k (show h_k h sh = 6 + 1 from q1.1), q2.1]
  rcases q2.2.2.2.2 with hn | hn
  · rw [lnJ (n := 0) ⟨q2.2.1, hn⟩, if_neg (by decide), show (235 : Int32) = iI ((235 : Nat) : Int) from rfl, nwA_n (by omega)]
    have hne : ¬ sh = h_x h := by have := q1.2.2; omega
    have hes : ext ρ h 11 sh = 11 := by unfold ext; rw [if_pos q1.2.2]; exact q1.2.1
    have T : tr ρ h (rg 11) (ext ρ h 11) (s_r (nw h 51 235 235) sh 0 (some (h_x h))) := tr_nw.trans (tr_sr hes)
    have S1 : SO (ext ρ h 11) (s_r (nw h 51 235 235) sh 0 (some (h_x h))) sh (h_x h) := by
      refine ⟨⟨?_, hes, ?_⟩, ?_, ⟨?_, ?_⟩, ?_, ?_⟩
      · rw [h_k_sr, k_nw, if_neg hne]; exact q1.1
      · show sh < h_x h + 1; have := q1.2.2; omega
      · simp [h_r_sr, va_up]
      · rw [h_k_sr, k_nw, if_pos rfl]
      · rw [h_n_sr, n_nw, if_pos rfl]
      · unfold ext; rw [if_neg (Nat.lt_irrefl _)]
      · show h_x h < h_x h + 1; omega
    have C1 := C.keep T (fun q => hl q)
    obtain ⟨g, words, a1, a2, a3, a4, a5, a6, a7, a8⟩ := write_20 N hN hl S1 C1 hL hp hs
    refine ⟨_, g, _, words, ?_, T.trans a2, a3, ?_, a5, a6, a7, ?_⟩
    · unfold f_Shelf_write_17
      rw [pR_k (by rw [k_nw, if_neg hne]; exact q1.1)]
      exact a1
    · rw [a4]; simp [h_r_sr, va_up, r_nw, hne]
    · rw [a8, hrs, if_pos hn]
      show 13 * (h_x h + 1) + (h_s h + 235) ≤ 13 * h_x h + h_s h + 248
      omega
  · rw [lnJ (n := 235) ⟨q2.2.1, hn⟩, if_pos (by decide)]
    obtain ⟨g, words, a1, a2, a3, a4, a5, a6, a7, a8⟩ := write_20 N hN hl (wr := wr) ⟨q1, q2.1, ⟨q2.2.1, hn⟩, q2.2.2.1, q2.2.2.2.1⟩ C hL hp hs
    exact ⟨ρ, g, wr, words, a1, a2, a3, a4, a5, a6, a7, by omega⟩
theorem isW_loop (N : Nat) {h : hS} {wr mb n : Nat} (S : SO ρ h sh wr) (hw : h_i h sh 1 = iI (n : Nat)) (hn : n ≤ 235) (hm : rj h mb n) : ∀ (m i fuel : Nat), i + m = n → ∃ v : Int32, f_Shelf_isWritten_13 N (m + (fuel + 1)) h sh (some mb) (iI i) = some (v, h) ∧ (v = 0 ∨ v = 1) ∧ (v = 1 → ∀ j, i ≤ j → j < n → h_j h mb j = h_j h wr j) := by
  intro m
  induction m with
  | zero =>
    intro i fuel hi
    refine ⟨1, ?_, Or.inr rfl, fun _ j h1 h2 => by omega⟩
    rw [Nat.zero_add]
    unfold f_Shelf_isWritten_13
    rw [gI_k (show h_k h sh = 6 + 1 from S.1.1), hw, if_pos ((iI_le (by omega) (by omega)).mpr (by omega)), bz_1]
  | succ m ih =>
    intro i fuel hi
    rw [show m + 1 + (fuel + 1) = (m + (fuel + 1)) + 1 by omega]
    unfold f_Shelf_isWritten_13
    rw [gI_k (show h_k h sh = 6 + 1 from S.1.1), hw, if_neg (fun q => absurd ((iI_le (by omega) (by omega)).mp q) (by omega)), aJ_i hm (by omega) (by omega), gR_k (show h_k h sh = 6 + 1 from S.1.1), S.2.1, aJ_i S.2.2.1 (by omega) (by omega)]
    by_cases he : h_j h mb i = h_j h wr i
    · rw [if_pos ((lg_eq0 _ _).mpr he), bn_i, show (1 : Int32) = iI 1 from rfl, iI_add, show (i : Int) + 1 = ((i + 1 : Nat) : Int) by omega]
      obtain ⟨v, a1, a2, a3⟩ := ih (i + 1) fuel (by omega)
      refine ⟨v, a1, a2, fun q j h1 h2 => ?_⟩
      by_cases hj : j = i
      · rw [hj]; exact he
      · exact a3 q j (by omega) h2
    · rw [if_neg (fun q => he ((lg_eq0 _ _).mp q)), bz_0]
      exact ⟨0, rfl, Or.inl rfl, fun q => absurd q (by decide)⟩
theorem isW_is (N : Nat) (hN : 500 ≤ N) {h : hS} {wr mb n : Nat} (S : SO ρ h sh wr) (hw : h_i h sh 1 = iI (n : Nat)) (hn : n ≤ 235) (hk : h_k h mb = 51) (hb : h_n h mb ≤ 235) : ∃ v : Int32, f_Shelf_isWritten N h sh (some mb) = some (v, h) ∧ (v = 0 ∨ v = 1) ∧ (v = 1 → h_n h mb = n ∧ ∀ j, j < n → h_j h mb j = h_j h wr j) := by
  unfold f_Shelf_isWritten
  rw [lnJ (n := h_n h mb) ⟨hk, rfl⟩, gI_k (show h_k h sh = 6 + 1 from S.1.1), hw]
  by_cases he : h_n h mb = n
  · rw [if_pos (by rw [he])]
    obtain ⟨fuel, hfu⟩ : ∃ fuel, N = n + (fuel + 1) := ⟨N - n - 1, by omega⟩
    obtain ⟨v, a1, a2, a3⟩ := isW_loop N S hw hn ⟨hk, he⟩ n 0 fuel (by omega)
    rw [← hfu] at a1
    exact ⟨v, a1, a2, fun q => ⟨he, fun j hj => a3 q j (Nat.zero_le _) hj⟩⟩
  · rw [if_neg (fun q => he (by have := (iI_eq (by omega) (by omega)).mp q; omega)), bz_0]
    exact ⟨0, rfl, Or.inl rfl, fun q => absurd q (by decide)⟩
theorem place0 (N : Nat) {h : hS} (C : CR ρ l h c L lf bt) : f_Curve_placeOf N h c (0 : Int32) = some (iI (fp L), h) := by
  cases L with
  | nil => exact placeOf_0 N C
  | cons a t => exact placeOf_in N C (i := 0) (by simp)
theorem beside_is (N : Nat) {h : hS} {k : Nat} {L' : List (Int × Int)} {lf' bt' : Int} (K : KP ρ h k L' lf' bt') (C : CR ρ l h c L lf bt) : ∃ v : Int32, f_Keepsake_isBeside N h k (some c) = some (v, h) ∧ (v = 0 ∨ v = 1) ∧ (v = 1 → iI (fp L') = iI (fp L) ∧ lf' = lf ∧ bt' = bt) := by
  obtain ⟨bb, q1, q2, q3, q4, q5, q6, q7⟩ := K
  have ho := C.ok
  unfold f_Keepsake_isBeside f_Keepsake_isBeside_39 f_Keepsake_isBeside_40
  rw [gI_k (show h_k h k = 4 + 1 from q1.1), q2.2.1, cv_k C.k, place0 N C, cl_s]
  by_cases h1 : iI (fp L') = iI (fp L)
  · rw [if_pos h1, gI_k (show h_k h k = 4 + 1 from q1.1), q2.2.2.1, gI_k C.k, C.f.2.1]
    by_cases h2 : iI lf' = iI lf
    · rw [if_pos h2, gJ_k (show h_k h k = 4 + 1 from q1.1), q2.2.2.2, gJ_k C.k, C.f.2.2.2]
      by_cases h3 : lI bt' = lI bt
      · rw [if_pos ((lg_eq0 _ _).mpr h3), bz_1]
        have e1 := (iI_eq (by have := q6.2.2.1; omega) (by have := ho.2.2.1; omega)).mp h2
        have e2 := (lI_eq (by have := q6.2.2.2; omega) (by have := ho.2.2.2; omega)).mp h3
        exact ⟨1, rfl, Or.inr rfl, fun _ => ⟨h1, e1, e2⟩⟩
      · rw [if_neg (fun q => h3 ((lg_eq0 _ _).mp q)), bz_0]
        exact ⟨0, rfl, Or.inl rfl, fun q => absurd q (by decide)⟩
    · rw [if_neg h2, bz_0]
      exact ⟨0, rfl, Or.inl rfl, fun q => absurd q (by decide)⟩
  · rw [if_neg h1, bz_0]
    exact ⟨0, rfl, Or.inl rfl, fun q => absurd q (by decide)⟩
theorem copyOf_is (N : Nat) {h : hS} {wr n : Nat} {R : Nat → Prop} (hr : rj h wr 235) (hwx : wr < h_x h) (hn : n ≤ 235) : ∃ g, f_Arr_copyOf_c38d5 N h (some wr) (iI (n : Nat)) = some (some (h_x h), g) ∧ tr ρ h R (ext ρ h 9) g ∧ rj g (h_x h) n ∧ (∀ i, i < n → h_j g (h_x h) i = h_j h wr i) ∧ h_x g = h_x h + 1 ∧ hm g = hm h + 13 + n := by
  have hne : ¬ wr = h_x h := by omega
  unfold f_Arr_copyOf_c38d5
  rw [lnJ hr]
  by_cases he : n = 235
  · subst he
    rw [if_pos rfl]
    refine ⟨nwJ h (h_n h wr) (h_j h wr), ?_, ?_, ?_, ?_, rfl, ?_⟩
    · show (if h_k h wr = 51 then f_Arr_copyOf_c38d5_10 N (nwJ h (h_n h wr) (h_j h wr)) (some (h_x h)) else none) = _
      rw [if_pos hr.1]
      show (if h_k (nwJ h (h_n h wr) (h_j h wr)) (h_x h) = 51 then some (some (h_x h), nwJ h (h_n h wr) (h_j h wr)) else none) = _
      rw [if_pos (by show va_up h.1 (h_x h) 51 (h_x h) = 51; simp [va_up])]
    · refine ⟨Nat.le_succ _, fun q hq => ?_⟩
      have hqx : ¬ q = h_x h := by omega
      refine ⟨?_, ?_, by unfold ext; rw [if_pos hq], fun _ => ⟨?_, ?_, ?_⟩⟩
      · show va_up h.1 (h_x h) 51 q = _; rw [va_up, if_neg hqx]; rfl
      · show va_up h.2.1 (h_x h) (h_n h wr) q = _; rw [va_up, if_neg hqx]; rfl
      · show va_up h.2.2.1 (h_x h) (fun _ => 0) q = _; rw [va_up, if_neg hqx]; rfl
      · show va_up h.2.2.2.1 (h_x h) (h_j h wr) q = _; rw [va_up, if_neg hqx]; rfl
      · show va_up h.2.2.2.2.1 (h_x h) (fun _ => none) q = _; rw [va_up, if_neg hqx]; rfl
    · refine ⟨?_, ?_⟩
      · show va_up h.1 (h_x h) 51 (h_x h) = 51; simp [va_up]
      · show va_up h.2.1 (h_x h) (h_n h wr) (h_x h) = 235; simp [va_up, hr.2]
    · intro i _
      show va_up h.2.2.2.1 (h_x h) (h_j h wr) (h_x h) i = _; simp [va_up]
    · show 13 * (h_x h + 1) + (h_s h + h_n h wr) = 13 * h_x h + h_s h + 13 + 235; rw [hr.2]; omega
  · rw [if_neg (fun q => he (by have := (iI_eq (by omega) (by omega)).mp q; omega)), nwA_n (by omega)]
    unfold f_Arr_copyOf_c38d5_17
    have hr1 : rj (nw h 51 n n) wr 235 := ⟨by rw [k_nw, if_neg hne]; exact hr.1, by rw [n_nw, if_neg hne]; exact hr.2⟩
    have hr2 : rj (nw h 51 n n) (h_x h) n := ⟨by rw [k_nw, if_pos rfl], by rw [n_nw, if_pos rfl]⟩
    rw [lnJ hr1, jmn_is (by omega) (by omega), show min ((235 : Nat) : Int) (n : Int) = (n : Int) by omega]
    refine ⟨s_J (nw h 51 n n) (h_x h) (va_cpy (h_j (nw h 51 n n) wr) (h_j (nw h 51 n n) (h_x h)) 0 0 n), ?_, tr.nJ tr_nw (Nat.le_refl _), hr2, ?_, rfl, ?_⟩
    · have hcl : (iI (n : Int)).toNatClampNeg = n := by rw [← nI_iI]; exact nI_clamp (by omega)
      have h0 : (0 : Int32).toNatClampNeg = 0 := by decide
      show (if h_k (nw h 51 n n) wr = 51 ∧ h_k (nw h 51 n n) (h_x h) = 51 ∧ cpOK (0 : Int32) (0 : Int32) (iI (n : Int)) (h_n (nw h 51 n n) wr) (h_n (nw h 51 n n) (h_x h)) then some (some (h_x h), s_J (nw h 51 n n) (h_x h) (va_cpy (h_j (nw h 51 n n) wr) (h_j (nw h 51 n n) (h_x h)) (0 : Int32).toNatClampNeg (0 : Int32).toNatClampNeg (iI (n : Int)).toNatClampNeg)) else none) = _
      rw [if_pos ⟨hr1.1, hr2.1, by decide, by decide, fun q => absurd ((iI_lt (b := 0) (by omega) (by omega)).mp q) (by omega), by rw [hcl, h0, hr1.2]; omega, by rw [hcl, h0, hr2.2]; omega⟩, hcl, h0]
    · intro i hi
      rw [h_j_sJ, if_pos rfl]
      unfold va_cpy
      rw [if_pos ⟨Nat.zero_le _, by omega⟩, show 0 + (i - 0) = i by omega, j_nw, if_neg hne]
    · show 13 * (h_x h + 1) + (h_s h + n) = 13 * h_x h + h_s h + 13 + n; omega
end
