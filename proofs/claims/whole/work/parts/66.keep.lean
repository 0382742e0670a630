/-! KEEPSAKES: never changed (label 9); what one tells on a curve -/
def fp (L : List (Int × Int)) : Int := match L with
  | [] => 0
  | e :: _ => e.1
def KP (ρ : Nat → Nat) (h : hS) (k : Nat) (L : List (Int × Int)) (lf bt : Int) : Prop := ∃ bb, (h_k h k = 5 ∧ ρ k = 9 ∧ k < h_x h) ∧ (h_i h k 0 = iI L.length ∧ h_i h k 1 = iI (fp L) ∧ h_i h k 2 = iI lf ∧ h_j h k 3 = lI bt) ∧ (h_r h k 4 = some bb ∧ h_k h bb = 51 ∧ ρ bb = 9 ∧ bb < h_x h ∧ h_n h bb ≤ 235) ∧ ENC (bF (h_j h bb) (h_n h bb)) 0 (fp L) L ∧ srt L ∧ cuOk L lf bt ∧ zSum L ≤ 5000
theorem KP.keep {ρ ρ' : Nat → Nat} {h g : hS} {k : Nat} {L : List (Int × Int)} {lf bt : Int} {R : Nat → Prop} (K : KP ρ h k L lf bt) (t : tr ρ h R ρ' g) (hR : ¬ R 9) : KP ρ' g k L lf bt := by
  obtain ⟨bb, q1, q2, q3, q4⟩ := K
  obtain ⟨a1, a2, a3, a4⟩ := t.2 k q1.2.2
  obtain ⟨b1, b2, b3, b4⟩ := t.2 bb q3.2.2.2.1
  obtain ⟨a5, a6, a7⟩ := a4 (by rw [q1.2.1]; exact hR)
  obtain ⟨b5, b6, b7⟩ := b4 (by rw [q3.2.2.1]; exact hR)
  have ht := t.1
  exact ⟨bb, ⟨a1.trans q1.1, a3.trans q1.2.1, by omega⟩, by rw [a5, a6]; exact q2, ⟨by rw [a7]; exact q3.1, b1.trans q3.2.1, b3.trans q3.2.2.1, by omega, by rw [b2]; exact q3.2.2.2.2⟩, by rw [b6, b2]; exact q4⟩
theorem app_pl {R : List (Int × Int)} {p w : Int} : (∀ e ∈ R, ∃ f ∈ app R p w, f.1 = e.1) ∧ (1 ≤ w → ∃ f ∈ app R p w, f.1 = p) := by
  unfold app
  by_cases h0 : w ≤ 0
  · rw [if_pos h0]; exact ⟨fun e he => ⟨e, he, rfl⟩, fun q => by omega⟩
  · rw [if_neg h0]
    rcases nil_or_snoc R with rfl | ⟨K, e, rfl⟩
    · exact ⟨fun e he => (by cases he), fun _ => ⟨(p, w), by simp, rfl⟩⟩
    · simp only [List.getLast?_concat, List.dropLast_concat]
      split
      · rename_i he
        refine ⟨fun q hq => ?_, fun _ => ⟨(e.1, e.2 + w), by simp, he⟩⟩
        rcases List.mem_append.mp hq with hq | hq
        · exact ⟨q, List.mem_append_left _ hq, rfl⟩
        · simp at hq; subst hq; exact ⟨(q.1, q.2 + w), by simp, rfl⟩
      · exact ⟨fun q hq => ⟨q, List.mem_append_left _ hq, rfl⟩, fun _ => ⟨(p, w), by simp, rfl⟩⟩
theorem dcd_mono (B : Nat → Bool) : ∀ (n i : Nat) (p : Int) (R : List (Int × Int)), R.length ≤ (dcd B n i p R).2.length ∧ zSum R ≤ zSum (dcd B n i p R).2 ∧ ∀ e ∈ R, ∃ f ∈ (dcd B n i p R).2, f.1 = e.1 := by
  intro n
  induction n with
  | zero => intro i p R; exact ⟨Nat.le_refl _, Int.le_refl _, fun e he => ⟨e, he, rfl⟩⟩
  | succ n ih =>
    intro i p R
    rw [dcd]
    split
    · obtain ⟨h1, h2, h3⟩ := ih (i + 1) p (app R p 1)
      have h4 := (app_len R p 1).1
      have h5 := app_sum (L := R) (p := p) (w := 1) (by omega)
      refine ⟨by omega, by omega, fun e he => ?_⟩
      obtain ⟨f, hf, hf1⟩ := app_pl.1 e he
      obtain ⟨q, hq, hq1⟩ := h3 f hf
      exact ⟨q, hq, hq1.trans hf1⟩
    · exact ih (i + 1) (p + 1) R
section
variable {ρ : Nat → Nat} {l k c bb : Nat} {L : List (Int × Int)} {F : Nat → Int64} {n : Nat}
/-- one bit -/
theorem show_in (N : Nat) (hL : cuOk L 0 0) (rc : hS → Nat → Option Nat → Int32 → Int32 → Option (Unit × hS)) {i : Nat} (hi : i < n) (hv : F i ≠ 0) : ∀ (m : Nat) (h : hS) (R : List (Int × Int)) (p : Int) (j fuel : Nat), j + m = 64 → CR ρ l h c R 0 0 → L.length ≤ capR h c → (dcd (bF F n) (64 * n - (64 * i + j)) (64 * i + j) p R).2 = L →
    ∃ g R' p', f_Keepsake_showOn_35 N rc (m + (fuel + 1)) h k (some c) (iI p) (iI i) (F i) (iI j) = f_Keepsake_showOn_79 N rc g k (some c) (iI p') (iI i) (F i) ∧ tr ρ h (rg l) ρ g ∧ CR ρ l g c R' 0 0 ∧ capR g c = capR h c ∧ hm g = hm h ∧ dcd (bF F n) m (64 * i + j) p R = (p', R') := by
  intro m
  induction m with
  | zero =>
    intro h R p j fuel hj C hcap hd
    refine ⟨h, R, p, ?_, tr.rf, C, rfl, rfl, rfl⟩
    rw [Nat.zero_add]
    unfold f_Keepsake_showOn_35
    rw [if_pos (show (64 : Int32) ≤ iI j from (iI_le (a := 64) (by omega) (by omega)).mpr (by omega))]
  | succ m ih =>
    intro h R p j fuel hj C hcap hd
    have hbit : bF F n (64 * i + j) = wb (F i) j := by
      unfold bF
      rw [decide_eq_true (by omega), show (64 * i + j) / 64 = i by omega, show (64 * i + j) % 64 = j by omega, Bool.true_and]
    have hT : 64 * n - (64 * i + j) = (64 * n - (64 * i + (j + 1))) + 1 := by omega
    rw [hT, dcd] at hd
    have hn0 : ¬ lg_cmp (F i) 0 = 0 := fun q => hv ((lg_eq0 _ _).mp q)
    rw [show m + 1 + (fuel + 1) = (m + (fuel + 1)) + 1 by omega]
    generalize hG : f_Keepsake_showOn_79 = G
    rw [dcd]
    by_cases hb : wb (F i) j = true
    · rw [if_pos (by rw [hbit]; exact hb)] at hd ⊢
      obtain ⟨m1, m2, m3⟩ := dcd_mono (bF F n) (64 * n - (64 * i + (j + 1))) (64 * i + j + 1) p (app R p 1)
      rw [hd] at m1 m2 m3
      obtain ⟨f1, hf1, hf2⟩ := (app_pl (R := R) (p := p) (w := 1)).2 (by omega)
      obtain ⟨f3, hf3, hf4⟩ := m3 f1 hf1
      have hpb := hL.1 f3 hf3
      obtain ⟨g, e1, e2, e3, e4, e5⟩ := cappend_is N C (p := p) (w := 1) (by omega) (by omega) (by rw [app_sum (by omega)] at m2; have := hL.2.1; omega) (by omega)
      obtain ⟨g2, R2, p2, a1, a2, a3, a4, a5, a6⟩ := ih g (app R p 1) p (j + 1) fuel (by omega) e3 (by rw [e4]; exact hcap) (by rw [show 64 * i + (j + 1) = 64 * i + j + 1 by omega] at hd ⊢; exact hd)
      refine ⟨g2, R2, p2, ?_, e2.trans a2, a3, a4.trans e4, a5.trans e5, a6⟩
      rw [hG] at a1
      unfold f_Keepsake_showOn_35 f_Keepsake_showOn_73
      rw [if_neg (show ¬ (64 : Int32) ≤ iI j from fun q => absurd ((iI_le (a := 64) (by omega) (by omega)).mp q) (by omega)), if_neg hn0, if_pos ((lg_eq0 _ _).mpr ((wb_test (F i) (by omega)).mpr hb)), cv_k C.k, show (1 : Int32) = iI 1 from rfl, e1, cl_s, bn_i, iI_add, show (j : Int) + 1 = ((j + 1 : Nat) : Int) by omega]
      exact a1
    · rw [if_neg (by rw [hbit]; exact hb)] at hd ⊢
      obtain ⟨g2, R2, p2, a1, a2, a3, a4, a5, a6⟩ := ih h R (p + 1) (j + 1) fuel (by omega) C hcap (by rw [show 64 * i + (j + 1) = 64 * i + j + 1 by omega] at hd ⊢; exact hd)
      refine ⟨g2, R2, p2, ?_, a2, a3, a4, a5, a6⟩
      rw [hG] at a1
      unfold f_Keepsake_showOn_35 f_Keepsake_showOn_73
      rw [if_neg (show ¬ (64 : Int32) ≤ iI j from fun q => absurd ((iI_le (a := 64) (by omega) (by omega)).mp q) (by omega)), if_neg hn0, if_neg (fun q => hb ((wb_test (F i) (by omega)).mp ((lg_eq0 _ _).mp q))), show (1 : Int32) = iI 1 from rfl, iI_add, bn_i, bn_i, iI_add, show (j : Int) + 1 = ((j + 1 : Nat) : Int) by omega]
      exact a1
/-- one word -/
theorem show_word (N : Nat) (hN : 100 ≤ N) (hL : cuOk L 0 0) (rc : hS → Nat → Option Nat → Int32 → Int32 → Option (Unit × hS)) {i : Nat} (hi : i < n) (h : hS) (R : List (Int × Int)) (p : Int) (C : CR ρ l h c R 0 0) (hcap : L.length ≤ capR h c) (hd : (dcd (bF F n) (64 * n - 64 * i) (64 * i) p R).2 = L) :
    ∃ g R' p', f_Keepsake_showOn_35 N rc N h k (some c) (iI p) (iI i) (F i) (0 : Int32) = rc g k (some c) (iI p') (iI ((i + 1 : Nat) : Int)) ∧ tr ρ h (rg l) ρ g ∧ CR ρ l g c R' 0 0 ∧ capR g c = capR h c ∧ hm g = hm h ∧ dcd (bF F n) 64 (64 * i) p R = (p', R') := by
  by_cases hv : F i = 0
  · refine ⟨h, R, p + 64, ?_, tr.rf, C, rfl, rfl, ?_⟩
    · obtain ⟨N', rfl⟩ : ∃ q, N = q + 1 := ⟨N - 1, by omega⟩
      unfold f_Keepsake_showOn_35 f_Keepsake_showOn_79 f_Keepsake_showOn_93
      rw [if_neg (by decide), if_pos ((lg_eq0 _ _).mpr hv), if_pos ((lg_eq0 _ _).mpr hv), show (64 : Int32) = iI 64 from rfl, iI_add, bn_i, bn_i, show (1 : Int32) = iI 1 from rfl, iI_add]
      rfl
    · rw [dcd_0 _ _ _ _ _ (fun j h1 h2 => ?_)]
      · rfl
      · unfold bF
        rw [show j / 64 = i by omega, hv, wb_0, Bool.and_false]
  · obtain ⟨fuel, hfu⟩ : ∃ fuel, N = 64 + (fuel + 1) := ⟨N - 65, by omega⟩
    obtain ⟨g, R', p', a1, a2, a3, a4, a5, a6⟩ := show_in (k := k) N hL rc hi hv 64 h R p 0 fuel (by omega) C hcap (by rw [Nat.add_zero]; exact hd)
    refine ⟨g, R', p', ?_, a2, a3, a4, a5, a6⟩
    have e : f_Keepsake_showOn_35 N rc N h k (some c) (iI p) (iI i) (F i) (0 : Int32) = f_Keepsake_showOn_79 N rc g k (some c) (iI p') (iI i) (F i) := by
      rw [← a1, ← hfu]; rfl
    rw [e]
    unfold f_Keepsake_showOn_79 f_Keepsake_showOn_93
    rw [if_neg (fun q => hv ((lg_eq0 _ _).mp q)), show (0 : Int32) = iI 0 from rfl, iI_add, bn_i, bn_i, show (1 : Int32) = iI 1 from rfl, iI_add, Int.add_zero]
    rfl
end
section
variable {ρ : Nat → Nat} {l k c : Nat} {L : List (Int × Int)} {lf bt : Int}
theorem show_loop (N : Nat) (hN : 100 ≤ N) (hl : l ≠ 9) {bb : Nat} {F : Nat → Int64} {n : Nat} (hn : n ≤ 235) : ∀ (m : Nat) (h : hS) (R : List (Int × Int)) (p : Int) (i fuel : Nat), i + m = n → KP ρ h k L lf bt → h_r h k 4 = some bb → h_j h bb = F → h_n h bb = n → CR ρ l h c R 0 0 → L.length ≤ capR h c → (dcd (bF F n) (64 * n - 64 * i) (64 * i) p R).2 = L →
    ∃ g, f_Keepsake_showOn_15 N (m + (fuel + 1)) h k (some c) (iI p) (iI i) = some ((), g) ∧ tr ρ h (rg l) ρ g ∧ CR ρ l g c L lf bt ∧ capR g c = capR h c ∧ hm g = hm h := by
  intro m
  induction m with
  | zero =>
    intro h R p i fuel hi K hb hF hnn C hcap hd
    obtain ⟨b1, q1, q2, q3, q4, q5, q6, q7⟩ := id K
    have : b1 = bb := by rw [q3.1] at hb; cases hb; rfl
    subst this
    rw [show i = n by omega, Nat.sub_self, dcd] at hd
    have hd : R = L := hd
    subst hd
    have C1 := C.left (v := lf) q6.2.2.1
    have C2 := C1.bottom (v := bt) q6.2.2.2
    refine ⟨_, ?_, (tr_si C.lab.1).trans (tr_sj C.lab.1), C2, rfl, rfl⟩
    rw [Nat.zero_add]
    unfold f_Keepsake_showOn_15
    have hkc : ¬ k = c := fun e => by have := q1.1; rw [e, C.k] at this; cases this
    rw [gR_k q1.1, q3.1, show lnA h 51 (some b1) = fun (f : Int32 → Option (Unit × hS)) => f (iI n) from by funext f; show (if h_k h b1 = 51 then f (Int32.ofNat (h_n h b1)) else none) = _; rw [if_pos q3.2.1, hnn, ← nI_iI]; rfl]
    simp only []
    rw [if_pos ((iI_le (by omega) (by omega)).mpr (by omega)), gI_k q1.1, q2.2.2.1, pI_k C.k, gJ_k (h := s_i h c 2 _) q1.1, pJ_k (h := s_i h c 2 _) C.k]
    rw [show h_j (s_i h c 2 (iI lf)) k 3 = lI bt from q2.2.2.2]
  | succ m ih =>
    intro h R p i fuel hi K hb hF hnn C hcap hd
    obtain ⟨b1, q1, q2, q3, q4, q5, q6, q7⟩ := id K
    have : b1 = bb := by rw [q3.1] at hb; cases hb; rfl
    subst this
    have hin : i < n := by omega
    have hL0 : cuOk L 0 0 := ⟨q6.1, q6.2.1, by decide, by decide⟩
    obtain ⟨g, R', p', a1, a2, a3, a4, a5, a6⟩ := show_word (k := k) (F := F) N hN hL0 (f_Keepsake_showOn_15 N (m + (fuel + 1))) hin h R p C hcap hd
    have hT : 64 * n - 64 * i = 64 + (64 * n - 64 * (i + 1)) := by omega
    rw [hT, dcd_add, a6] at hd
    have K1 := K.keep a2 (fun q => hl q.symm)
    obtain ⟨c1, c2, c3, c4⟩ := a2.2 k q1.2.2
    obtain ⟨d1, d2, d3, d4⟩ := a2.2 b1 q3.2.2.2.1
    obtain ⟨c5, c6, c7⟩ := c4 (by rw [q1.2.1]; exact fun q => hl q.symm)
    obtain ⟨d5, d6, d7⟩ := d4 (by rw [q3.2.2.1]; exact fun q => hl q.symm)
    obtain ⟨g2, f1, f2, f3, f4, f5⟩ := ih g R' p' (i + 1) fuel (by omega) K1 (by rw [c7]; exact q3.1) (by rw [d6]; exact hF) (by rw [d2]; exact hnn) a3 (by rw [a4]; exact hcap) (by rw [show 64 * (i + 1) = 64 * i + 64 by omega] at hd ⊢; exact hd)
    refine ⟨g2, ?_, a2.trans f2, f3, f4.trans a4, f5.trans a5⟩
    rw [show m + 1 + (fuel + 1) = (m + (fuel + 1)) + 1 by omega]
    rw [f1] at a1
    generalize hG : f_Keepsake_showOn_35 = G at a1
    unfold f_Keepsake_showOn_15
    rw [gR_k q1.1, q3.1, show lnA h 51 (some b1) = fun (f : Int32 → Option (Unit × hS)) => f (iI n) from by funext f; show (if h_k h b1 = 51 then f (Int32.ofNat (h_n h b1)) else none) = _; rw [if_pos q3.2.1, hnn, ← nI_iI]; rfl]
    simp only []
    rw [if_neg (fun q => absurd ((iI_le (by omega) (by omega)).mp q) (by omega)), gR_k q1.1, q3.1]
    have haJ : aJ h (some b1) (iI i) = fun (f : Int64 → Option (Unit × hS)) => f (F i) := by
      funext f
      have h1 : inb (iI i) (h_n h b1) := by rw [hnn, ← nI_iI]; exact nI_in hin (by omega)
      show (if h_k h b1 = 51 ∧ inb (iI i) (h_n h b1) then f (h_j h b1 (iI i).toNatClampNeg) else none) = _
      rw [if_pos ⟨q3.2.1, h1⟩, ← nI_iI, nI_clamp (by omega), hF]
    rw [haJ, hG]
    exact a1
theorem show_is (N : Nat) (hN : 500 ≤ N) {h : hS} (K : KP ρ h k L lf bt) (B : CB ρ l h c) (hl : l ≠ 9) : ∃ ρ' g, f_Keepsake_showOn N h k (some c) = some ((), g) ∧ tr ρ h (rg l) ρ' g ∧ CR ρ' l g c L lf bt ∧ hm g + rst (capR g c) ≤ hm h + rst (capR h c) := by
  obtain ⟨bb, q1, q2, q3, q4, q5, q6, q7⟩ := id K
  have hlen := len_sum (fun e he => (q6.1 e he).2.2)
  obtain ⟨ρ1, g1, e1, e2, e3, e4, e5⟩ := cclear_is N B (room := L.length) (by omega)
  have K1 := K.keep e2 (fun q => hl q.symm)
  obtain ⟨b2, p1, p2, p3, p4, p5, p6, p7⟩ := id K1
  have hb := bF_end (h_j g1 b2) (h_n g1 b2)
  have hnb := enc_nb hb L 0 (fp L) p4 (Nat.zero_le _)
  have hd := dcd_enc _ L (64 * h_n g1 b2) 0 (fp L) [] p4 (by omega)
  rw [apps_nil q5] at hd
  obtain ⟨fuel, hfu⟩ : ∃ fuel, N = h_n g1 b2 + (fuel + 1) := ⟨N - h_n g1 b2 - 1, by have := p3.2.2.2.2; omega⟩
  obtain ⟨g2, a1, a2, a3, a4, a5⟩ := show_loop (k := k) N (by omega) hl (bb := b2) p3.2.2.2.2 (h_n g1 b2) g1 [] (fp L) 0 fuel (by omega) K1 p3.1 rfl rfl e3 e4 (by rw [Nat.mul_zero, Nat.sub_zero]; exact hd)
  refine ⟨ρ1, g2, ?_, e2.trans a2, a3, by rw [a4, a5]; exact e5⟩
  unfold f_Keepsake_showOn f_Keepsake_showOn_8
  have hkc : h_k h c = 3 + 1 := by obtain ⟨r, z, _⟩ := B; exact z.1
  rw [gI_k q1.1, q2.1, cv_k hkc, e1, cl_s, gI_k p1.1, p2.2.1]
  rw [← hfu] at a1
  exact a1
end
