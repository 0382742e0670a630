/-! THE CLASS'S READER: words, numbers, clauses -/
theorem tr_sw {ρ : Nat → Nat} {h : hS} {a : Nat} {F : Nat → Int32} {R : Nat → Prop} (ha : R (ρ a)) : tr ρ h R ρ (s_w h a F) := ⟨Nat.le_refl _, fun q _ => ⟨rfl, rfl, rfl, fun hR => ⟨by rw [h_i_sw, if_neg (fun e => hR (by rw [e]; exact ha))], rfl, rfl⟩⟩⟩
section
variable {ρ : Nat → Nat} {h : hS} {r tp n : Nat} {B : Nat → Int} {F : Nat → Int32}
theorem CN.sw (C : CN ρ h) (hr : ρ r = 18) : CN ρ (s_w h r F) := C.keep (tr_sw (R := rg 18) hr) (fun z => by have : (30 : Nat) = 18 := z; omega)
theorem wd_loop (N : Nat) (D : RD h r tp B n) (h8 : F 8 = iI n) {a s : Nat} (hs : s ≤ n) (h11 : F 11 = iI a) {o : Option Nat} {w : List Int} (W : WD ρ (s_w h r F) o w) (hw : ∀ e ∈ w, 97 ≤ e ∧ e ≤ 122) (hl : w.length = s - a) (h5 : w.length ≤ 5) : ∀ (m i fuel : Nat), i + m = w.length → ∃ v : Int32, f_Reader_isTokenWord_20 N (m + (fuel + 1)) (s_w h r F) r o (iI i) = some (v, s_w h r F) ∧ ((∀ j, i ≤ j → (hj : j < w.length) → w[j] = B (a + j)) → v = 1) ∧ (¬ (∀ j, i ≤ j → (hj : j < w.length) → w[j] = B (a + j)) → v = 0) := by
  have hn := D.le
  intro m
  induction m with
  | zero =>
    intro i fuel hi
    rw [Nat.zero_add]
    unfold f_Reader_isTokenWord_20
    rw [W.len N, if_pos ((iI_le (by omega) (by omega)).mpr (by omega))]
    exact ⟨1, bz_1, fun _ => rfl, fun q => absurd (fun j h1 h2 => by omega) q⟩
  | succ m ih =>
    intro i fuel hi
    have hil : i < w.length := by omega
    have hb := (D.2.2.2.2 (a + i) (by omega)).1
    have hwi := hw _ (List.getElem_mem hil)
    have hs := sg_rng hb
    rw [show m + 1 + (fuel + 1) = (m + (fuel + 1)) + 1 by omega]
    unfold f_Reader_isTokenWord_20
    rw [W.len N, if_neg (fun q => absurd ((iI_le (by omega) (by omega)).mp q) (by omega)), W.at N (fun e he => by have := hw e he; omega) (by omega) hil, gW D, h11, vW D, iI_add, show (a : Int) + (i : Int) = ((a + i : Nat) : Int) by omega, byteAt_in N D h8 (by omega), cl_s]
    by_cases q : w[i] = B (a + i)
    · obtain ⟨v, v1, v2, v3⟩ := ih (i + 1) fuel (by omega)
      rw [if_pos (show iI w[i] = iI (sg (B (a + i))) by rw [(sg_eq hb (d := w[i]) (by omega)).mpr q.symm]), bn_i, show (1 : Int32) = iI 1 from rfl, iI_add, show (i : Int) + 1 = ((i + 1 : Nat) : Int) by omega, v1]
      have eqv : (∀ j, i ≤ j → (hj : j < w.length) → w[j] = B (a + j)) ↔ (∀ j, i + 1 ≤ j → (hj : j < w.length) → w[j] = B (a + j)) := ⟨fun z j h1 h2 => z j (by omega) h2, fun z j h1 h2 => by
        by_cases e : j = i
        · subst e; exact q
        · exact z j (by omega) h2⟩
      exact ⟨v, rfl, fun z => v2 (eqv.mp z), fun z => v3 (fun y => z (eqv.mpr y))⟩
    · rw [if_neg (fun z => q ((sg_eq hb (d := w[i]) (by omega)).mp ((iI_eq (by omega) (by omega)).mp z).symm).symm)]
      exact ⟨0, bz_0, fun z => absurd (z i (Nat.le_refl _) hil) q, fun _ => rfl⟩
theorem isWd_is (N : Nat) (hN : 1000 ≤ N) (D : RD h r tp B n) (h8 : F 8 = iI n) {a s : Nat} (has : a ≤ s) (hs : s ≤ n) (h11 : F 11 = iI a) (h12 : F 12 = iI s) {o : Option Nat} {w : List Int} (W : WD ρ (s_w h r F) o w) (hw : ∀ e ∈ w, 97 ≤ e ∧ e ≤ 122) (h5 : w.length ≤ 5) : ∃ v : Int32, f_Reader_isTokenWord N (s_w h r F) r o = some (v, s_w h r F) ∧ (zBy B (s - a) a = w → v = 1) ∧ (¬ zBy B (s - a) a = w → v = 0) := by
  have hn := D.le
  unfold f_Reader_isTokenWord
  rw [W.len N, gW D, h12, gW D, h11, iI_sub]
  by_cases q : w.length = s - a
  · rw [if_pos (show iI (w.length : Int) = iI ((s : Int) - a) by congr 1; omega)]
    obtain ⟨v, v1, v2, v3⟩ := wd_loop N D h8 hs h11 W hw q h5 w.length 0 (N - w.length - 1) (by omega)
    rw [show w.length + (N - w.length - 1 + 1) = N by omega] at v1
    have eqv : zBy B (s - a) a = w ↔ ∀ j, 0 ≤ j → (hj : j < w.length) → w[j] = B (a + j) := by
      have hL := zBy_len B (s - a) a
      constructor
      · intro e j _ hj
        have := zBy_at B (s - a) a j (by omega)
        rw [← this]
        simp only [e]
      · intro z
        apply List.ext_getElem (by omega)
        intro j j1 j2
        rw [zBy_at B (s - a) a j j1, z j (Nat.zero_le _) j2]
    exact ⟨v, v1, fun z => v2 (eqv.mp z), fun z => v3 (fun y => z (eqv.mpr y))⟩
  · rw [if_neg (fun z => q (by have := (iI_eq (by omega) (by omega)).mp z; omega))]
    exact ⟨0, bz_0, fun z => absurd (by rw [← z, zBy_len]) q, fun _ => rfl⟩
theorem kindTok_loop (N : Nat) (hN : 1000 ≤ N) (D : RD h r tp B n) (C : CN ρ (s_w h r F)) (h8 : F 8 = iI n) {a s : Nat} (has : a ≤ s) (hs : s ≤ n) (h11 : F 11 = iI a) (h12 : F 12 = iI s) : ∀ (m k fuel : Nat), k + m = 9 → f_Reader_kindOfToken_2 N (m + (fuel + 1)) (s_w h r F) r (iI k) = some (iI (zWk B a s m k), s_w h r F) := by
  intro m
  induction m with
  | zero =>
    intro k fuel hk
    have e : k = 9 := by omega
    subst e
    rw [Nat.zero_add]
    unfold f_Reader_kindOfToken_2
    rw [if_pos (show (9 : Int32) ≤ iI ((9 : Nat) : Int) by decide)]
    rfl
  | succ m ih =>
    intro k fuel hk
    obtain ⟨o, o1, o2⟩ := word_is N C (k := k) (by omega)
    obtain ⟨v, v1, v2, v3⟩ := isWd_is N hN D h8 has hs h11 h12 o2 (zWord_rng k) (zWord_len k)
    rw [show m + 1 + (fuel + 1) = (m + (fuel + 1)) + 1 by omega, zWk]
    unfold f_Reader_kindOfToken_2
    rw [if_neg (show ¬ (9 : Int32) ≤ iI (k : Int) from fun z => absurd ((iI_le (a := 9) (by omega) (by omega)).mp z) (by omega)), o1, cl_s, vW D, v1, cl_s]
    by_cases q : zBy B (s - a) a = zWord k
    · rw [if_neg (show ¬ v = 0 by rw [v2 q]; decide), if_pos q]
    · rw [if_pos (show v = 0 from v3 q), if_neg q, bn_i, show (1 : Int32) = iI 1 from rfl, iI_add, show (k : Int) + 1 = ((k + 1 : Nat) : Int) by omega]
      exact ih (k + 1) fuel (by omega)
theorem kindTok_is (N : Nat) (hN : 1000 ≤ N) (D : RD h r tp B n) (C : CN ρ (s_w h r F)) (h8 : F 8 = iI n) {a s : Nat} (has : a ≤ s) (hs : s ≤ n) (h11 : F 11 = iI a) (h12 : F 12 = iI s) : f_Reader_kindOfToken N (s_w h r F) r = some (iI (zWk B a s 9 0), s_w h r F) := by
  have lp := kindTok_loop N hN D C h8 has hs h11 h12 9 0 (N - 10) (by omega)
  rw [show 9 + (N - 10 + 1) = N by omega] at lp
  exact lp
theorem failR_is (N : Nat) (D : RD h r tp B n) (v : Int32) : f_Reader_fail N (s_w h r F) r v = some ((), s_w h r (upd (upd F 5 v) 6 (F 11))) := by
  unfold f_Reader_fail
  rw [pW' D, gW D, upd_o (by decide), pW' D]
/-- the reader's numbers behind a piece of a clause: its last token, its fault -/
def fW (F F' : Nat → Int32) (t : Int × Nat × Nat) (f : Int) : Prop := (F' 10 = iI t.1 ∧ F' 11 = iI t.2.1 ∧ F' 12 = iI t.2.2) ∧ F' 5 = iI f ∧ (f ≠ 0 → F' 6 = iI t.2.1) ∧ F' 4 = F 4 ∧ F' 8 = F 8 ∧ F' 9 = F 9
theorem tokF_at (t : Int × Nat × Nat) : tokF F t 10 = iI t.1 ∧ tokF F t 11 = iI t.2.1 ∧ tokF F t 12 = iI t.2.2 := ⟨rfl, rfl, rfl⟩
theorem num31 (N : Nat) (hN : 1000 ≤ N) (D : RD h r tp B n) {F0 : Nat → Int32} {t : Int × Nat × Nat} (hF : fW F0 F t 0) (h8 : F 8 = iI n) (ht : (t.2.1 ≤ t.2.2 ∧ t.2.2 ≤ n) ∧ (0 ≤ t.1 ∧ t.1 ≤ 4)) (hd : t.1 = 2 → ∀ j, t.2.1 ≤ j → j < t.2.2 → 48 ≤ B j ∧ B j ≤ 57) {hi : Int} (hhi : 0 ≤ hi ∧ hi ≤ 999) (be : Bool) : ∃ F', f_Reader_readNumber_31 N (s_w h r F) r (iI hi) (if be = true then 1 else 0) = some (iI (if t.1 = 2 ∧ zNv B t ≤ hi then (if be = true then -zNv B t else zNv B t) else 0), s_w h r F') ∧ fW F0 F' t (if t.1 = 2 then (if zNv B t ≤ hi then 0 else 2) else 1) := by
  obtain ⟨⟨f10, f11, f12⟩, f5, f6, f4, f8, f9⟩ := hF
  have fl : ∀ v : Int, v ≠ 0 → fW F0 (upd (upd F 5 (iI v)) 6 (F 11)) t v := fun v hv => by
    refine ⟨⟨?_, ?_, ?_⟩, ?_, fun _ => ?_, ?_, ?_, ?_⟩
    · rw [upd_o (by decide), upd_o (by decide)]; exact f10
    · rw [upd_o (by decide), upd_o (by decide)]; exact f11
    · rw [upd_o (by decide), upd_o (by decide)]; exact f12
    · rw [upd_o (by decide), upd_a]
    · rw [upd_a]; exact f11
    · rw [upd_o (by decide), upd_o (by decide)]; exact f4
    · rw [upd_o (by decide), upd_o (by decide)]; exact f8
    · rw [upd_o (by decide), upd_o (by decide)]; exact f9
  unfold f_Reader_readNumber_31 f_Reader_readNumber_77
  rw [gW D, f10]
  by_cases q : t.1 = 2
  · have hv := zNv_rng ht.1.1 (hd q)
    rw [if_pos (show iI t.1 = (2 : Int32) by rw [q]; rfl), vW D, numTok_is N hN D h8 f11 f12 ht.1 (hd q), cl_s, if_pos q]
    by_cases q2 : zNv B t ≤ hi
    · rw [if_pos ((iI_le (by omega) (by omega)).mpr q2), if_pos q2, if_pos (show t.1 = 2 ∧ zNv B t ≤ hi from ⟨q, q2⟩)]
      refine ⟨F, ?_, ⟨f10, f11, f12⟩, f5, fun z => absurd rfl z, f4, f8, f9⟩
      cases be with
      | true => rw [if_neg (show ¬ (if true = true then (1 : Int32) else 0) = 0 by decide), iI_neg]; rfl
      | false => rw [if_pos (show (if false = true then (1 : Int32) else 0) = 0 from rfl)]; rfl
    · rw [if_neg (fun z => q2 ((iI_le (by omega) (by omega)).mp z)), if_neg q2, if_neg (fun z => q2 z.2), vW D, failR_is N D, cl_s]
      exact ⟨_, rfl, fl 2 (by decide)⟩
  · rw [if_neg (show ¬ iI t.1 = (2 : Int32) from fun z => q ((iI_eq (b := 2) (by omega) (by omega)).mp z)), if_neg q, if_neg (fun z => q z.1), vW D, failR_is N D, cl_s]
    exact ⟨_, rfl, fl 1 (by decide)⟩
theorem readNum_is (N : Nat) (hN : 1000 ≤ N) (D : RD h r tp B n) {e : Nat} (he : e ≤ n) (h8 : F 8 = iI n) (h12 : F 12 = iI e) (h5 : F 5 = 0) (bl : Bool) {hi : Int} (hhi : 0 ≤ hi ∧ hi ≤ 999) : ∃ F', f_Reader_readNumber N (s_w h r F) r (if bl = true then 1 else 0) (iI hi) = some (iI (zNw B n bl hi e), s_w h r F') ∧ fW F F' (zNt B n bl e) (zNf B n bl hi e) := by
  have h1 := zTok_rng (B := B) he
  have fw : ∀ (G : Nat → Int32) (t : Int × Nat × Nat), G 5 = 0 → G 4 = F 4 → G 8 = F 8 → G 9 = F 9 → fW F (tokF G t) t 0 := fun G t g5 g4 g8 g9 => ⟨tokF_at t, by rw [tokF_o (by decide) (by decide) (by decide), g5]; rfl, fun z => absurd rfl z, by rw [tokF_o (by decide) (by decide) (by decide)]; exact g4, by rw [tokF_o (by decide) (by decide) (by decide)]; exact g8, by rw [tokF_o (by decide) (by decide) (by decide)]; exact g9⟩
  have hr := zNt_rng (B := B) bl he
  have k8 : ∀ (G : Nat → Int32) (t : Int × Nat × Nat), G 8 = iI n → tokF G t 8 = iI n := fun G t g8 => by rw [tokF_o (by decide) (by decide) (by decide)]; exact g8
  have fin : ∀ (G : Nat → Int32) (be : Bool), zBe B n bl e = be → fW F G (zNt B n bl e) 0 → G 8 = iI n → ∃ F', f_Reader_readNumber_31 N (s_w h r G) r (iI hi) (if be = true then 1 else 0) = some (iI (zNw B n bl hi e), s_w h r F') ∧ fW F F' (zNt B n bl e) (zNf B n bl hi e) := fun G be hbe hG g8 => by
    obtain ⟨F', a1, a2⟩ := num31 N hN D hG g8 ⟨⟨hr.2.1, hr.2.2.1⟩, hr.2.2.2.1⟩ hr.2.2.2.2.2 hhi be
    refine ⟨F', ?_, a2⟩
    rw [a1]
    unfold zNw zNf
    rw [hbe]
    by_cases q : (zNt B n bl e).1 = 2
    · by_cases q2 : zNv B (zNt B n bl e) ≤ hi
      · rw [if_pos ⟨q, q2⟩, if_pos q, if_pos q2, if_pos rfl]
      · rw [if_neg (fun z => q2 z.2), if_pos q, if_neg q2, if_neg (by decide)]
    · rw [if_neg (fun z => q z.1), if_neg q, if_neg (by decide)]
  unfold f_Reader_readNumber
  rw [vW D, next_is N hN D he h8 h12, cl_s]
  cases bl with
  | false =>
    have hbe : zBe B n false e = false := rfl
    have hnt : zNt B n false e = zTok B n e := by unfold zNt; rw [hbe]; rfl
    rw [if_pos (show (if false = true then (1 : Int32) else 0) = 0 from rfl)]
    unfold f_Reader_readNumber_21 f_Reader_readNumber_22
    rw [if_pos rfl]
    exact fin _ false hbe (by rw [hnt]; exact fw F _ h5 rfl rfl rfl) (k8 _ _ h8)
  | true =>
    rw [if_neg (show ¬ (if true = true then (1 : Int32) else 0) = 0 by decide), vW D]
    obtain ⟨v, v1, v2, v3⟩ := sign_is N D (F := tokF F (zTok B n e)) (t := zTok B n e) (k8 _ _ h8) (tokF_at _).1 (tokF_at _).2.1 h1.2.1 (fun z => (h1.2.2 z).2.1) (c := 45) (by omega)
    rw [show (45 : Int32) = iI 45 from rfl, v1, cl_s]
    by_cases q : (zTok B n e).1 = 3 ∧ B (zTok B n e).2.1 = 45
    · have hbe : zBe B n true e = true := by unfold zBe; rw [Bool.true_and]; exact decide_eq_true q
      have hnt : zNt B n true e = zTok B n (zTok B n e).2.2 := by unfold zNt; rw [if_pos hbe]
      rw [if_neg (show ¬ v = 0 by rw [v2 q]; decide)]
      unfold f_Reader_readNumber_22
      rw [if_neg (by decide), vW D, next_is N hN D h1.1.2.2 (k8 _ _ h8) (tokF_at _).2.2, cl_s]
      have o5 : tokF F (zTok B n e) 5 = 0 := by rw [tokF_o (by decide) (by decide) (by decide)]; exact h5
      exact fin _ true hbe (by rw [hnt]; exact fw _ _ o5 (tokF_o (by decide) (by decide) (by decide)) (tokF_o (by decide) (by decide) (by decide)) (tokF_o (by decide) (by decide) (by decide))) (k8 _ _ (k8 _ _ h8))
    · have hbe : zBe B n true e = false := by unfold zBe; rw [Bool.true_and]; exact decide_eq_false q
      have hnt : zNt B n true e = zTok B n e := by unfold zNt; rw [hbe]; rfl
      rw [if_pos (show v = 0 from v3 q)]
      unfold f_Reader_readNumber_21 f_Reader_readNumber_22
      rw [if_pos rfl]
      exact fin _ false hbe (by rw [hnt]; exact fw F _ h5 rfl rfl rfl) (k8 _ _ h8)
/-- the first number of a step -/
theorem readFirst_is (N : Nat) (hN : 1000 ≤ N) (D : RD h r tp B n) (C : CN ρ (s_w h r F)) {e : Nat} (he : e ≤ n) (h8 : F 8 = iI n) (h12 : F 12 = iI e) (h5 : F 5 = 0) {cost : Int} (hc : 0 ≤ cost ∧ cost ≤ 3) (h9 : F 9 = iI cost) {kd : Int} (hk : 0 ≤ kd ∧ kd ≤ 8) : ∃ F', f_Reader_readFirst N (s_w h r F) r (iI kd) = some (iI (zFw B n kd e), s_w h r F') ∧ F' 5 = iI (zFf B n kd cost e) ∧ (zFf B n kd cost e ≠ 0 → F' 6 = iI (zFa B n kd e)) ∧ F' 12 = iI (zFe B n kd e) ∧ F' 4 = F 4 ∧ F' 8 = F 8 ∧ F' 9 = F 9 := by
  have k1 : kd.toNat < 9 := by omega
  have k2 : ((kd.toNat : Nat) : Int) = kd := by omega
  have lo1 := loF_at ⟨kd.toNat, k1⟩
  have hi1 := hiF_at ⟨kd.toNat, k1⟩
  simp only [k2] at lo1 hi1
  have rl := loF_r kd
  have rh := hiF_r kd
  have hz := zNum_rng kd
  unfold f_Reader_readFirst zFw zFf zFe
  rw [nums_cl N C hk]
  by_cases q : zNum kd = 0
  · rw [if_pos (show iI (zNum kd) = (0 : Int32) by rw [q]; rfl), if_pos q, if_pos q, if_pos q]
    exact ⟨F, rfl, by rw [h5]; rfl, fun z => absurd rfl z, h12, rfl, rfl, rfl⟩
  · rw [if_neg (show ¬ iI (zNum kd) = (0 : Int32) from fun z => q ((iI_eq (b := 0) (by omega) (by omega)).mp z)), if_neg q, if_neg q, if_neg q, bn_i]
    have e1 : ∀ {β : Type} (f : Int32 → Option β), aI (s_w h r F) 56 (h_r (s_w h r F) 0 2) (iI kd) f = f (iI (loF kd)) := fun f => by
      have := C.2.2.2.1.at (by decide) (show kd.toNat < ([-500, -500, -500, -500, 0, 0, 0, 0, 0] : List Int).length from k1) f
      rw [k2, lo1] at this
      exact this
    have e2 : ∀ {β : Type} (f : Int32 → Option β), aI (s_w h r F) 56 (h_r (s_w h r F) 0 3) (iI kd) f = f (iI (hiF kd)) := fun f => by
      have := C.2.2.2.2.at (by decide) (show kd.toNat < ([500, 500, 500, 500, 99, 0, 0, 999, 3] : List Int).length from k1) f
      rw [k2, hi1] at this
      exact this
    rw [e1]
    obtain ⟨F', a1, a2⟩ := readNum_is N hN D he h8 h12 h5 (decide (loF kd < 0)) (hi := hiF kd) (by omega)
    obtain ⟨⟨g10, g11, g12⟩, g5, g6, g4, g8, g9⟩ := a2
    have fin : ∃ F', f_Reader_readFirst_23 N (s_w h r F) r (iI kd) (some r) (if decide (loF kd < 0) = true then 1 else 0) = some (iI (zNw B n (decide (loF kd < 0)) (hiF kd) e), s_w h r F') ∧ F' 5 = iI (if zNf B n (decide (loF kd < 0)) (hiF kd) e = 0 then (if kd = 8 ∧ zNw B n (decide (loF kd < 0)) (hiF kd) e = cost then 3 else 0) else zNf B n (decide (loF kd < 0)) (hiF kd) e) ∧ ((if zNf B n (decide (loF kd < 0)) (hiF kd) e = 0 then (if kd = 8 ∧ zNw B n (decide (loF kd < 0)) (hiF kd) e = cost then 3 else 0) else zNf B n (decide (loF kd < 0)) (hiF kd) e) ≠ 0 → F' 6 = iI (zFa B n kd e)) ∧ F' 12 = iI (zNt B n (decide (loF kd < 0)) e).2.2 ∧ F' 4 = F 4 ∧ F' 8 = F 8 ∧ F' 9 = F 9 := by
      have hf : zNf B n (decide (loF kd < 0)) (hiF kd) e = 0 ∨ zNf B n (decide (loF kd < 0)) (hiF kd) e = 1 ∨ zNf B n (decide (loF kd < 0)) (hiF kd) e = 2 := by
        unfold zNf
        split
        · split
          · exact Or.inl rfl
          · exact Or.inr (Or.inr rfl)
        · exact Or.inr (Or.inl rfl)
      unfold f_Reader_readFirst_23 f_Reader_readFirst_58
      rw [bn_i, e2, vW D, a1, cl_s, gW D, g5]
      by_cases z0 : zNf B n (decide (loF kd < 0)) (hiF kd) e = 0
      · rw [if_pos (show iI (zNf B n (decide (loF kd < 0)) (hiF kd) e) = (0 : Int32) by rw [z0]; rfl), if_pos z0]
        by_cases e8 : kd = 8
        · rw [if_pos (show iI kd = (8 : Int32) by rw [e8]; rfl), gW D, g9, h9]
          have hr := zNt_rng (B := B) (decide (loF kd < 0)) he
          have nt2 : (zNt B n (decide (loF kd < 0)) e).1 = 2 := by
            unfold zNf at z0
            by_cases y : (zNt B n (decide (loF kd < 0)) e).1 = 2
            · exact y
            · rw [if_neg y] at z0; omega
          have hv := zNv_rng hr.2.1 (hr.2.2.2.2.2 nt2)
          have hw : -2147483648 ≤ zNw B n (decide (loF kd < 0)) (hiF kd) e ∧ zNw B n (decide (loF kd < 0)) (hiF kd) e ≤ 2147483647 := by
            unfold zNw
            rw [if_pos z0]
            split <;> omega
          by_cases ec : zNw B n (decide (loF kd < 0)) (hiF kd) e = cost
          · rw [if_pos (show iI (zNw B n (decide (loF kd < 0)) (hiF kd) e) = iI cost by rw [ec]), if_pos ⟨e8, ec⟩, vW D, failR_is N D, cl_s]
            refine ⟨_, rfl, by rw [upd_o (by decide), upd_a]; rfl, fun _ => by rw [upd_a]; exact g11, by rw [upd_o (by decide), upd_o (by decide)]; exact g12, by rw [upd_o (by decide), upd_o (by decide)]; exact g4, by rw [upd_o (by decide), upd_o (by decide)]; exact g8, by rw [upd_o (by decide), upd_o (by decide)]; exact g9.trans h9⟩
          · rw [if_neg (fun y => ec ((iI_eq hw (by omega)).mp y)), if_neg (fun y => ec y.2)]
            exact ⟨F', rfl, by rw [g5, z0], fun y => absurd rfl y, g12, g4, g8, g9.trans h9⟩
        · rw [if_neg (show ¬ iI kd = (8 : Int32) from fun y => e8 ((iI_eq (b := 8) (by omega) (by omega)).mp y)), if_neg (fun y => e8 y.1)]
          exact ⟨F', rfl, by rw [g5, z0], fun y => absurd rfl y, g12, g4, g8, g9⟩
      · rw [if_neg (show ¬ iI (zNf B n (decide (loF kd < 0)) (hiF kd) e) = (0 : Int32) from fun y => z0 ((iI_eq (b := 0) (by omega) (by omega)).mp y)), if_neg z0]
        exact ⟨F', rfl, g5, fun _ => g6 z0, g12, g4, g8, g9⟩
    by_cases l0 : loF kd < 0
    · rw [if_neg (show ¬ (0 : Int32) ≤ iI (loF kd) from fun y => absurd ((iI_le (a := 0) (by omega) (by omega)).mp y) (by omega))]
      rw [decide_eq_true l0] at fin ⊢
      exact fin
    · rw [if_pos (show (0 : Int32) ≤ iI (loF kd) from (iI_le (a := 0) (by omega) (by omega)).mpr (by omega))]
      rw [decide_eq_false l0] at fin ⊢
      exact fin
end
