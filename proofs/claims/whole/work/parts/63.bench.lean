/-! THE BENCH: its object b (label 1), work and spare (labels 2, 3, which change about), base (4), added (5) -/
def BO (ρ : Nat → Nat) (h : hS) (b ba ad w s lw ls : Nat) : Prop := (h_k h b = 2 ∧ ρ b = 1 ∧ b < h_x h) ∧ (h_r h b 0 = some w ∧ h_r h b 1 = some s ∧ h_r h b 2 = some ba ∧ h_r h b 3 = some ad) ∧ ((lw = 2 ∧ ls = 3) ∨ (lw = 3 ∧ ls = 2))
section
variable {ρ : Nat → Nat} {h : hS} {b ba ad w s lw ls : Nat}
theorem BO.k (B : BO ρ h b ba ad w s lw ls) : h_k h b = 1 + 1 := B.1.1
theorem BO.keep (B : BO ρ h b ba ad w s lw ls) {ρ' : Nat → Nat} {g : hS} {R : Nat → Prop} (t : tr ρ h R ρ' g) (hR : ¬ R 1) : BO ρ' g b ba ad w s lw ls := by
  obtain ⟨a1, a2, a3, a4⟩ := t.2 b B.1.2.2
  obtain ⟨a5, a6, a7⟩ := a4 (by rw [B.1.2.1]; exact hR)
  have ht := t.1
  have hb := B.1.2.2
  exact ⟨⟨a1.trans B.1.1, a3.trans B.1.2.1, by omega⟩, by rw [a7]; exact B.2.1, B.2.2⟩
theorem BO.ne (B : BO ρ h b ba ad w s lw ls) : lw ≠ ls ∧ lw ≠ 1 ∧ ls ≠ 1 ∧ lw ≠ 4 ∧ ls ≠ 4 ∧ lw ≠ 5 ∧ ls ≠ 5 := by
  rcases B.2.2 with ⟨h1, h2⟩ | ⟨h1, h2⟩ <;> subst h1 <;> subst h2 <;> decide
theorem swap_is (N : Nat) (B : BO ρ h b ba ad w s lw ls) : ∃ g, f_Bench_swap N h b = some ((), g) ∧ tr ρ h (rg 1) ρ g ∧ BO ρ g b ba ad s w ls lw ∧ hm g = hm h := by
  unfold f_Bench_swap
  rw [gR_k B.k, gR_k B.k, pR_k B.k, pR_k (h := s_r h b 1 _) B.k, B.2.1.1, B.2.1.2.1]
  refine ⟨_, rfl, (tr_sr B.1.2.1).trans (tr_sr B.1.2.1), ⟨B.1, ⟨?_, ?_, ?_, ?_⟩, ?_⟩, rfl⟩
  · simp [h_r_sr, va_up]
  · simp [h_r_sr, va_up]
  · simp [h_r_sr, va_up, B.2.1.2.2.1]
  · simp [h_r_sr, va_up, B.2.1.2.2.2]
  · rcases B.2.2 with q | q
    · exact Or.inr ⟨q.2, q.1⟩
    · exact Or.inl ⟨q.2, q.1⟩
end
section
variable {ρ : Nat → Nat} {h : hS} {b ba ad w s lw ls : Nat} {X Y : List (Int × Int)} {lfx btx lfy bty : Int}
theorem add_X (N : Nat) (B : BO ρ h b ba ad w s lw ls) (CX : CR ρ lw h w X lfx btx) {R : List (Int × Int)} (CS : CR ρ ls h s R 0 0) {i : Nat} {x : Int × Int} {XS : List (Int × Int)} (hX : X.drop i = x :: XS) (hs : zSum R + x.2 ≤ 8000) (hr : R.length < capR h s) (rc : hS → Nat → Int32 → Int32 → Int32 → Int32 → Option (Int32 × hS)) (a1 a3 : Int32) (k : Nat) :
    ∃ g, f_Bench_add_101 N rc h b a1 (iI i) a3 (iI k) = rc g b a1 (iI ((i + 1 : Nat) : Int)) a3 (iI ((k + 1 : Nat) : Int)) ∧ tr ρ h (rg ls) ρ g ∧ CR ρ ls g s (app R x.1 x.2) 0 0 ∧ capR g s = capR h s ∧ hm g = hm h := by
  obtain ⟨hi, he, ht⟩ := dr_cons hX
  have hp := CX.ok.1 _ (List.getElem_mem hi)
  rw [he] at hp
  obtain ⟨g, e1, e2, e3, e4, e5⟩ := cappend_is N CS (p := x.1) (w := x.2) ⟨hp.1, hp.2.1⟩ (by omega) hs (by have := (app_len R x.1 x.2).2; omega)
  refine ⟨g, ?_, e2, e3, e4, e5⟩
  unfold f_Bench_add_101 f_Bench_add_156
  rw [gR_k B.k, B.2.1.2.1, gR_k B.k, B.2.1.1, cv_k CX.k, placeOf_in N CX hi, he, cl_s, gR_k B.k, B.2.1.1, cv_k CX.k, weightOf_in N CX hi, he, cl_s, cv_k CS.k, e1, cl_s, bn_i, bn_i, show (1 : Int32) = iI 1 from rfl, iI_add, iI_add]
  rfl
theorem add_Y (N : Nat) (B : BO ρ h b ba ad w s lw ls) (CY : CR ρ 5 h ad Y lfy bty) {R : List (Int × Int)} (CS : CR ρ ls h s R 0 0) {j : Nat} {y : Int × Int} {YS : List (Int × Int)} (hY : Y.drop j = y :: YS) (hs : zSum R + y.2 ≤ 8000) (hr : R.length < capR h s) (rc : hS → Nat → Int32 → Int32 → Int32 → Int32 → Option (Int32 × hS)) (a1 a2 : Int32) (k : Nat) :
    ∃ g, f_Bench_add_130 N rc h b a1 a2 (iI j) (iI k) = rc g b a1 a2 (iI ((j + 1 : Nat) : Int)) (iI ((k + 1 : Nat) : Int)) ∧ tr ρ h (rg ls) ρ g ∧ CR ρ ls g s (app R y.1 y.2) 0 0 ∧ capR g s = capR h s ∧ hm g = hm h := by
  obtain ⟨hi, he, ht⟩ := dr_cons hY
  have hp := CY.ok.1 _ (List.getElem_mem hi)
  rw [he] at hp
  obtain ⟨g, e1, e2, e3, e4, e5⟩ := cappend_is N CS (p := y.1) (w := y.2) ⟨hp.1, hp.2.1⟩ (by omega) hs (by have := (app_len R y.1 y.2).2; omega)
  refine ⟨g, ?_, e2, e3, e4, e5⟩
  unfold f_Bench_add_130 f_Bench_add_156
  rw [gR_k B.k, B.2.1.2.1, gR_k B.k, B.2.1.2.2.2, cv_k CY.k, placeOf_in N CY hi, he, cl_s, gR_k B.k, B.2.1.2.2.2, cv_k CY.k, weightOf_in N CY hi, he, cl_s, cv_k CS.k, e1, cl_s, bn_i, bn_i, show (1 : Int32) = iI 1 from rfl, iI_add, iI_add]
  rfl
theorem srt_drop {L K : List (Int × Int)} {i : Nat} (h : srt L) (hd : L.drop i = K) : srt K := by
  induction i generalizing L with
  | zero => rw [List.drop_zero] at hd; rw [← hd]; exact h
  | succ i ih =>
    cases L with
    | nil => simp at hd; rw [hd]; trivial
    | cons a t => exact ih h.2.2 (by simpa using hd)
theorem add_loop (N : Nat) (hX : srt X) (hY : srt Y) (all : Nat) (hall : all = X.length + Y.length) (hal : all ≤ 10000) : ∀ (n : Nat) (h : hS) (XS YS R : List (Int × Int)) (i j k fuel : Nat),
    BO ρ h b ba ad w s lw ls → CR ρ lw h w X lfx btx → CR ρ 5 h ad Y lfy bty → CR ρ ls h s R 0 0 → X.drop i = XS → i ≤ X.length → Y.drop j = YS → j ≤ Y.length → n = XS.length + YS.length → k + n = all → R.length ≤ k → all ≤ capR h s → zSum R + zSum XS + zSum YS ≤ 8000 → srt R → (∀ e ∈ R, ∀ q ∈ XS, e.1 ≤ q.1) → (∀ e ∈ R, ∀ q ∈ YS, e.1 ≤ q.1) →
    ∃ g R', f_Bench_add_54 N (n + fuel) h b (iI all) (iI i) (iI j) (iI k) = f_Bench_add_54 N fuel g b (iI all) (iI X.length) (iI Y.length) (iI all) ∧ tr ρ h (rg ls) ρ g ∧ CR ρ ls g s R' 0 0 ∧ srt R' ∧ (∀ φ, zF φ R' = zF φ R + zF φ XS + zF φ YS) ∧ hm g = hm h ∧ capR g s = capR h s := by
  intro n
  induction n with
  | zero =>
    intro h XS YS R i j k fuel B CX CY CS hXS hi hYS hj hn hk hRk hcap hsum hR hRX hRY
    have hx : XS = [] := List.length_eq_zero_iff.mp (by omega)
    have hy : YS = [] := List.length_eq_zero_iff.mp (by omega)
    subst hx; subst hy
    have h1 := dr_nil hXS
    have h2 := dr_nil hYS
    refine ⟨h, R, ?_, tr.rf, CS, hR, fun φ => by simp [zF], rfl, rfl⟩
    rw [show i = X.length by omega, show j = Y.length by omega, show k = all by omega, Nat.zero_add]
  | succ n ih =>
    intro h XS YS R i j k fuel B CX CY CS hXS hi hYS hj hn hk hRk hcap hsum hR hRX hRY
    have hne := B.ne
    have hlx := CX.len
    have hly := CY.len
    have hsX := srt_drop hX hXS
    have hsY := srt_drop hY hYS
    have hnX : 0 ≤ zSum XS := zSum_nn _ (fun e he => by have := srt_pos hsX e he; omega)
    have hnY : 0 ≤ zSum YS := zSum_nn _ (fun e he => by have := srt_pos hsY e he; omega)
    have key : ∀ (g : hS) (e : Int × Int) (XS' YS' : List (Int × Int)) (i' j' : Nat), tr ρ h (rg ls) ρ g → CR ρ ls g s (app R e.1 e.2) 0 0 → capR g s = capR h s → hm g = hm h → X.drop i' = XS' → i' ≤ X.length → Y.drop j' = YS' → j' ≤ Y.length → n = XS'.length + YS'.length → 1 ≤ e.2 → (∀ φ, zF φ XS + zF φ YS = e.2 * φ e.1 + (zF φ XS' + zF φ YS')) → (∀ q ∈ R, q.1 ≤ e.1) → (∀ q ∈ XS', e.1 ≤ q.1) → (∀ q ∈ YS', e.1 ≤ q.1) →
        ∃ g' R', f_Bench_add_54 N (n + fuel) g b (iI all) (iI i') (iI j') (iI ((k + 1 : Nat) : Int)) = f_Bench_add_54 N fuel g' b (iI all) (iI X.length) (iI Y.length) (iI all) ∧ tr ρ h (rg ls) ρ g' ∧ CR ρ ls g' s R' 0 0 ∧ srt R' ∧ (∀ φ, zF φ R' = zF φ R + zF φ XS + zF φ YS) ∧ hm g' = hm h ∧ capR g' s = capR h s := by
      intro g e XS' YS' i' j' t1 c1 c2 c3 d1 d2 d3 d4 d5 d6 d7 d8 d9 d10
      have hsm := d7 (fun _ => 1)
      rw [zF_one, zF_one, zF_one, zF_one] at hsm
      obtain ⟨g', R', a1, a2, a3, a4, a5, a6, a7⟩ := ih g XS' YS' (app R e.1 e.2) i' j' (k + 1) fuel (B.keep t1 (fun q => hne.2.2.1 q.symm)) (CX.keep t1 (fun q => hne.1 q)) (CY.keep t1 (fun q => hne.2.2.2.2.2.2 q.symm)) c1 d1 d2 d3 d4 d5 (by omega) (by have := (app_len R e.1 e.2).2; omega) (by rw [c2]; exact hcap) (by rw [app_sum (by omega)]; omega) (app_srt hR d8) (fun q hq r hr => by have h1 := app_le (w := e.2) d8 q hq; have h2 := d9 r hr; omega) (fun q hq r hr => by have h1 := app_le (w := e.2) d8 q hq; have h2 := d10 r hr; omega)
      refine ⟨g', R', a1, t1.trans a2, a3, a4, fun φ => ?_, a6.trans c3, a7.trans c2⟩
      rw [a5, app_F φ (by omega)]
      have := d7 φ
      omega
    have hRk' : R.length < capR h s := by omega
    rw [show n + 1 + fuel = (n + fuel) + 1 by omega]
    have goX : ∀ (x : Int × Int) (XS' : List (Int × Int)), XS = x :: XS' → (∀ q ∈ YS, x.1 ≤ q.1) → ∃ g R', f_Bench_add_101 N (f_Bench_add_54 N (n + fuel)) h b (iI all) (iI i) (iI j) (iI k) = f_Bench_add_54 N fuel g b (iI all) (iI X.length) (iI Y.length) (iI all) ∧ tr ρ h (rg ls) ρ g ∧ CR ρ ls g s R' 0 0 ∧ srt R' ∧ (∀ φ, zF φ R' = zF φ R + zF φ XS + zF φ YS) ∧ hm g = hm h ∧ capR g s = capR h s := by
      intro x XS' hx hxy
      subst hx
      obtain ⟨hi2, he, ht⟩ := dr_cons hXS
      have hx1 := hsX.1
      have hnX' : 0 ≤ zSum XS' := zSum_nn _ (fun e he => by have := srt_pos hsX.2.2 e he; omega)
      rw [zSum] at hsum
      obtain ⟨g, e1, e2, e3, e4, e5⟩ := add_X N B CX CS hXS (by omega) hRk' (f_Bench_add_54 N (n + fuel)) (iI all) (iI j) k
      rw [e1]
      exact key g x XS' YS (i + 1) j e2 e3 e4 e5 ht (by omega) hYS hj (by simp at hn; omega) hx1 (fun φ => by rw [zF]; omega) (fun q hq => hRX q hq x (List.mem_cons_self ..)) (fun q hq => Int.le_of_lt (hsX.2.1 q hq)) hxy
    have goY : ∀ (y : Int × Int) (YS' : List (Int × Int)), YS = y :: YS' → (∀ q ∈ XS, y.1 ≤ q.1) → ∃ g R', f_Bench_add_130 N (f_Bench_add_54 N (n + fuel)) h b (iI all) (iI i) (iI j) (iI k) = f_Bench_add_54 N fuel g b (iI all) (iI X.length) (iI Y.length) (iI all) ∧ tr ρ h (rg ls) ρ g ∧ CR ρ ls g s R' 0 0 ∧ srt R' ∧ (∀ φ, zF φ R' = zF φ R + zF φ XS + zF φ YS) ∧ hm g = hm h ∧ capR g s = capR h s := by
      intro y YS' hy hxy
      subst hy
      obtain ⟨hi2, he, ht⟩ := dr_cons hYS
      have hy1 := hsY.1
      have hnY' : 0 ≤ zSum YS' := zSum_nn _ (fun e he => by have := srt_pos hsY.2.2 e he; omega)
      rw [zSum] at hsum
      obtain ⟨g, e1, e2, e3, e4, e5⟩ := add_Y N B CY CS hYS (by omega) hRk' (f_Bench_add_54 N (n + fuel)) (iI all) (iI i) k
      rw [e1]
      exact key g y XS YS' i (j + 1) e2 e3 e4 e5 hXS hi ht (by omega) (by simp at hn; omega) hy1 (fun φ => by rw [zF]; omega) (fun q hq => hRY q hq y (List.mem_cons_self ..)) hxy (fun q hq => Int.le_of_lt (hsY.2.1 q hq))
    generalize hF : f_Bench_add_54 N fuel = F at goX goY ⊢
    unfold f_Bench_add_54
    rw [if_neg (fun q => absurd ((iI_le (by omega) (by omega)).mp q) (by omega)), gR_k B.k, B.2.1.2.2.2, gI_k CY.k, CY.f.1]
    cases YS with
    | nil =>
      have h2 := dr_nil hYS
      rw [if_pos ((iI_le (by omega) (by omega)).mpr (by omega))]
      cases XS with
      | nil => simp at hn
      | cons x XS' => exact goX x XS' rfl (fun q hq => by cases hq)
    | cons y YS' =>
      obtain ⟨hj2, hye, hyt⟩ := dr_cons hYS
      rw [if_neg (fun q => absurd ((iI_le (by omega) (by omega)).mp q) (by omega)), gR_k B.k, B.2.1.1, gI_k CX.k, CX.f.1]
      cases XS with
      | nil =>
        have h2 := dr_nil hXS
        rw [if_pos ((iI_le (by omega) (by omega)).mpr (by omega))]
        exact goY y YS' rfl (fun q hq => by cases hq)
      | cons x XS' =>
        obtain ⟨hi2, hxe, hxt⟩ := dr_cons hXS
        have hpx := CX.ok.1 _ (List.getElem_mem hi2)
        have hpy := CY.ok.1 _ (List.getElem_mem hj2)
        rw [hxe] at hpx
        rw [hye] at hpy
        rw [if_neg (fun q => absurd ((iI_le (by omega) (by omega)).mp q) (by omega)), gR_k B.k, B.2.1.1, cv_k CX.k, placeOf_in N CX hi2, hxe, cl_s, gR_k B.k, B.2.1.2.2.2, cv_k CY.k, placeOf_in N CY hj2, hye, cl_s]
        by_cases hc : y.1 < x.1
        · rw [if_pos ((iI_lt (by omega) (by omega)).mpr hc)]
          exact goY y YS' rfl (fun q hq => by
            rcases List.mem_cons.mp hq with rfl | hq
            · omega
            · have := hsX.2.1 q hq; omega)
        · rw [if_neg (fun q => hc ((iI_lt (by omega) (by omega)).mp q))]
          exact goX x XS' rfl (fun q hq => by
            rcases List.mem_cons.mp hq with rfl | hq
            · omega
            · have := hsY.2.1 q hq; omega)
end
