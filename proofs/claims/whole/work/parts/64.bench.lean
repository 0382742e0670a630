def RW : Nat → Prop := fun q => q = 1 ∨ q = 2 ∨ q = 3 ∨ q = 5
def RV : Nat → Prop := fun q => q = 1 ∨ q = 2 ∨ q = 3
theorem RV_W (q : Nat) (h : RV q) : RW q := by unfold RV at h; unfold RW; omega
theorem kLow_mem (u : Int) : ∀ (L : List (Int × Int)) (v : Int), kLow v L = 0 ∨ ∃ e ∈ L, kLow v L = e.1 := by
  intro L
  induction L with
  | nil => intro v; exact Or.inl rfl
  | cons a t ih =>
    intro v
    rw [kLow]
    split
    · rcases ih (v - a.2) with q | ⟨e, he, q⟩
      · exact Or.inl q
      · exact Or.inr ⟨e, List.mem_cons_of_mem _ he, q⟩
    · exact Or.inr ⟨a, List.mem_cons_self .., rfl⟩
theorem len_sum {L : List (Int × Int)} (h : ∀ e ∈ L, 1 ≤ e.2) : (L.length : Int) ≤ zSum L := by
  induction L with
  | nil => simp [zSum]
  | cons a t ih =>
    have h1 := ih (fun e he => h e (List.mem_cons_of_mem _ he))
    have h2 := h a (List.mem_cons_self ..)
    rw [zSum, List.length_cons]
    omega
theorem sum_places {R X Y : List (Int × Int)} (hR : srt R) (hX : srt X) (hY : srt Y) (h : ∀ φ, zF φ R = zF φ X + zF φ Y) : ∀ e ∈ R, (∃ q ∈ X, q.1 = e.1) ∨ ∃ q ∈ Y, q.1 = e.1 := by
  intro e he
  have h1 := (wt_pos (p := e.1) (L := R) (fun e he => by have := srt_pos hR e he; omega)).mpr ⟨e, he, rfl, by have := srt_pos hR e he; omega⟩
  have h2 : wt e.1 R = wt e.1 X + wt e.1 Y := h _
  by_cases hx : wt e.1 X = 0
  · have hy : wt e.1 Y ≠ 0 := by omega
    obtain ⟨q, hq, hq1, _⟩ := (wt_pos (fun e he => by have := srt_pos hY e he; omega)).mp hy
    exact Or.inr ⟨q, hq, hq1⟩
  · obtain ⟨q, hq, hq1, _⟩ := (wt_pos (fun e he => by have := srt_pos hX e he; omega)).mp hx
    exact Or.inl ⟨q, hq, hq1⟩
section
variable {ρ : Nat → Nat} {h : hS} {b ba ad w s lw ls : Nat} {X Y : List (Int × Int)} {lfx btx lfy bty : Int}
theorem add_is (N : Nat) (hN : 20000 ≤ N) (B : BO ρ h b ba ad w s lw ls) (CX : CR ρ lw h w X lfx btx) (CY : CR ρ 5 h ad Y lfy bty) (CS : CB ρ ls h s) (hX : srt X) (hY : srt Y) (hXp : ∀ e ∈ X, -5000 ≤ e.1 ∧ e.1 ≤ 5000) (hYp : ∀ e ∈ Y, -5000 ≤ e.1 ∧ e.1 ≤ 5000) (hlf : lfx + lfy ≤ 8000)
    (hvx : ∀ x, -5000 ≤ x → x ≤ 5000 → 0 ≤ btx + kv x lfx X ∧ btx + kv x lfx X ≤ 400000000) (hvy : ∀ x, -5000 ≤ x → x ≤ 5000 → 0 ≤ bty + kv x lfy Y ∧ bty + kv x lfy Y ≤ 400000000) :
    ∃ ρ' g v, f_Bench_add N h b = some (v, g) ∧ tr ρ h RW ρ' g ∧ hm g + (rst (capR g w) + rst (capR g s) + rst (capR g ad)) ≤ hm h + (rst (capR h w) + rst (capR h s) + rst (capR h ad)) ∧
      ((5000 < zSum X + zSum Y ∧ v = 0 ∧ g = h ∧ ρ' = ρ) ∨ (zSum X + zSum Y ≤ 5000 ∧ ∃ R bt, BO ρ' g b ba ad s w ls lw ∧ CR ρ' ls g s R (lfx + lfy) bt ∧ CR ρ' lw g w X lfx btx ∧ CR ρ' 5 g ad Y lfy bty ∧ srt R ∧ (∀ φ, zF φ R = zF φ X + zF φ Y) ∧ bt = (btx + kv (kLow (lfx + lfy) R) lfx X) + (bty + kv (kLow (lfx + lfy) R) lfy Y) ∧ (-5000 ≤ kLow (lfx + lfy) R ∧ kLow (lfx + lfy) R ≤ 5000) ∧ (kMuch R bt → v = 0) ∧ (¬ kMuch R bt → v = 1))) := by
  have hne := B.ne
  have ox := CX.ok
  have oy := CY.ok
  have nx := ox.nn
  have ny := oy.nn
  have hlx := len_sum (fun e he => (ox.1 e he).2.2)
  have hly := len_sum (fun e he => (oy.1 e he).2.2)
  unfold f_Bench_add
  rw [gR_k B.k, B.2.1.1, gI_k CX.k, CX.f.2.2.1, gR_k B.k, B.2.1.2.2.2, gI_k CY.k, CY.f.2.2.1, iI_add]
  by_cases hc : zSum X + zSum Y ≤ 5000
  · rw [if_pos (show iI (zSum X + zSum Y) ≤ (5000 : Int32) from (iI_le (b := 5000) (by omega) (by omega)).mpr hc), gR_k B.k, B.2.1.1, gI_k CX.k, CX.f.1, gR_k B.k, B.2.1.2.2.2, gI_k CY.k, CY.f.1, iI_add, bn_i, gR_k B.k, B.2.1.2.1]
    obtain ⟨r, q1, q2⟩ := id CS
    rw [cv_k (show h_k h s = 3 + 1 from q1.1)]
    obtain ⟨all, hall⟩ : ∃ all : Nat, all = X.length + Y.length := ⟨_, rfl⟩
    rw [show (X.length : Int) + (Y.length : Int) = (all : Int) by omega]
    obtain ⟨ρ1, g1, e1, e2, e3, e4, e5⟩ := cclear_is N CS (room := all) (by omega)
    have t1 : tr ρ h RW ρ1 g1 := e2.mono (fun q hq => by have : q = ls := hq; unfold RW; rcases B.2.2 with ⟨_, z⟩ | ⟨_, z⟩ <;> omega)
    have B1 := B.keep e2 (fun q => hne.2.2.1 q.symm)
    have CX1 := CX.keep e2 (fun q => hne.1 q)
    have CY1 := CY.keep e2 (fun q => hne.2.2.2.2.2.2 q.symm)
    rw [e1, cl_s]
    unfold f_Bench_add_47
    obtain ⟨fuel, hfu⟩ : ∃ fuel, N = all + (fuel + 1) := ⟨N - all - 1, by omega⟩
    obtain ⟨g2, R, a1, a2, a3, a4, a5, a6, a7⟩ := add_loop N hX hY all hall (by omega) all g1 X Y [] 0 0 0 (fuel + 1) B1 CX1 CY1 e3 (List.drop_zero ..) (Nat.zero_le _) (List.drop_zero ..) (Nat.zero_le _) hall (by omega) (Nat.zero_le _) e4 (by simp [zSum]; omega) trivial (fun e he => by cases he) (fun e he => by cases he)
    have hloop : f_Bench_add_54 N N g1 b (iI all) (0 : Int32) (0 : Int32) (0 : Int32) = f_Bench_add_54 N (fuel + 1) g2 b (iI all) (iI X.length) (iI Y.length) (iI all) := by
      rw [← a1, ← hfu]; rfl
    rw [hloop]
    have B2 := B1.keep a2 (fun q => hne.2.2.1 q.symm)
    have CX2 := CX1.keep a2 (fun q => hne.1 q)
    have CY2 := CY1.keep a2 (fun q => hne.2.2.2.2.2.2 q.symm)
    have hRF : ∀ φ, zF φ R = zF φ X + zF φ Y := fun φ => by rw [a5]; simp [zF]
    have hlow : -5000 ≤ kLow (lfx + lfy) R ∧ kLow (lfx + lfy) R ≤ 5000 := by
      rcases kLow_mem 0 R (lfx + lfy) with q | ⟨e, he, q⟩
      · omega
      · rw [q]
        rcases sum_places a4 hX hY hRF e he with ⟨z, hz, hz1⟩ | ⟨z, hz, hz1⟩
        · have := hXp z hz; omega
        · have := hYp z hz; omega
    have hv1 := hvx _ hlow.1 hlow.2
    have hv2 := hvy _ hlow.1 hlow.2
    have C3 := a3.left (v := lfx + lfy) (by have := ox.2.2.1; have := oy.2.2.1; omega)
    have T3 : tr ρ1 g2 (rg ls) ρ1 (s_i g2 s 2 (iI (lfx + lfy))) := tr_si a3.lab.1
    have B3 := B2.keep T3 (fun q => hne.2.2.1 q.symm)
    have CX3 := CX2.keep T3 (fun q => hne.1 q)
    have CY3 := CY2.keep T3 (fun q => hne.2.2.2.2.2.2 q.symm)
    have C4 := C3.bottom (v := (btx + kv (kLow (lfx + lfy) R) lfx X) + (bty + kv (kLow (lfx + lfy) R) lfy Y)) (by omega)
    have T4 : tr ρ1 (s_i g2 s 2 (iI (lfx + lfy))) (rg ls) ρ1 (s_j (s_i g2 s 2 (iI (lfx + lfy))) s 4 (lI ((btx + kv (kLow (lfx + lfy) R) lfx X) + (bty + kv (kLow (lfx + lfy) R) lfy Y)))) := tr_sj C3.lab.1
    have B4 := B3.keep T4 (fun q => hne.2.2.1 q.symm)
    have CX4 := CX3.keep T4 (fun q => hne.1 q)
    have CY4 := CY3.keep T4 (fun q => hne.2.2.2.2.2.2 q.symm)
    obtain ⟨g5, b1, b2, b3, b4⟩ := swap_is N B4
    have C5 := C4.keep b2 (fun q => hne.2.2.1 q)
    have CX5 := CX4.keep b2 (fun q => hne.2.1 q)
    have CY5 := CY4.keep b2 (fun q => by cases q)
    obtain ⟨v, c1, c2, c3⟩ := cmuch_is N C5
    have tls : ∀ q, rg ls q → RW q := fun q hq => by have : q = ls := hq; unfold RW; rcases B.2.2 with ⟨_, z⟩ | ⟨_, z⟩ <;> omega
    have T : tr ρ h RW ρ1 g5 := t1.trans ((a2.mono tls).trans ((T3.mono tls).trans ((T4.mono tls).trans (b2.mono (fun q hq => Or.inl hq)))))
    have hval1 := cval_is N (by omega) CX3 (x := kLow (lfx + lfy) R) (by omega)
    have hval2 := cval_is N (by omega) CY3 (x := kLow (lfx + lfy) R) (by omega)
    have hlw := clowest_is N (by omega) C3
    refine ⟨ρ1, g5, if kMuch R ((btx + kv (kLow (lfx + lfy) R) lfx X) + (bty + kv (kLow (lfx + lfy) R) lfy Y)) then 0 else 1, ?_, T, ?_, Or.inr ⟨hc, R, _, b3, C5, CX5, CY5, a4, hRF, rfl, hlow, fun q => if_pos q, fun q => if_neg q⟩⟩
    · unfold f_Bench_add_54
      rw [if_pos ((iI_le (by omega) (by omega)).mpr (by omega)), gR_k B2.k, B2.2.1.2.1, gR_k B2.k, B2.2.1.1, gI_k CX2.k, CX2.f.2.1, gR_k B2.k, B2.2.1.2.2.2, gI_k CY2.k, CY2.f.2.1, iI_add, pI_k a3.k, gR_k B3.k, B3.2.1.2.1, cv_k C3.k, hlw, cl_s, gR_k B3.k, B3.2.1.2.1, gR_k B3.k, B3.2.1.1, cv_k CX3.k, hval1, cl_s, gR_k B3.k, B3.2.1.2.2.2, cv_k CY3.k, hval2, cl_s, lI_add, pJ_k C3.k, cv_k B4.k, b1, cl_s, gR_k b3.k, b3.2.1.1, cv_k C5.k, c1, cl_s]
      unfold f_Bench_add_238
      by_cases hm : kMuch R ((btx + kv (kLow (lfx + lfy) R) lfx X) + (bty + kv (kLow (lfx + lfy) R) lfy Y))
      · rw [c2 hm, if_neg (by decide), if_pos hm, bz_0]
      · rw [c3 hm, if_pos rfl, if_neg hm, bz_1]
    · have hcw : capR g5 w = capR h w := by
        rw [CX4.cap b2 (fun q => hne.2.1 q), CX3.cap T4 (fun q => hne.1 q), CX2.cap T3 (fun q => hne.1 q), CX1.cap a2 (fun q => hne.1 q), CX.cap e2 (fun q => hne.1 q)]
      have hca : capR g5 ad = capR h ad := by
        rw [CY4.cap b2 (fun q => by cases q), CY3.cap T4 (fun q => hne.2.2.2.2.2.2 q.symm), CY2.cap T3 (fun q => hne.2.2.2.2.2.2 q.symm), CY1.cap a2 (fun q => hne.2.2.2.2.2.2 q.symm), CY.cap e2 (fun q => hne.2.2.2.2.2.2 q.symm)]
      have hcs : capR g5 s = capR g1 s := by
        rw [C4.cap b2 (fun q => hne.2.2.1 q), ← a7]; rfl
      have hmm : hm g5 = hm g1 := by rw [b4, ← a6]; rfl
      rw [hcw, hca, hcs, hmm]
      omega
  · rw [if_neg (show ¬ iI (zSum X + zSum Y) ≤ (5000 : Int32) from fun q => hc ((iI_le (b := 5000) (by have := ox.2.1; have := oy.2.1; omega) (by omega)).mp q))]
    exact ⟨ρ, h, 0, bz_0, tr.rf, Nat.le_refl _, Or.inl ⟨by omega, rfl, rfl, rfl⟩⟩
end
theorem app_kf (L : List (Int × Int)) {p w : Int} (hw : 0 ≤ w) : (app L p w).length ≤ L.length + (if kf (p, w) = true then 1 else 0) := by
  by_cases h0 : w = 0
  · have : app L p w = L := by unfold app; rw [if_pos (by omega)]
    rw [this]; omega
  · have : kf (p, w) = true := by unfold kf; simp [h0]
    rw [if_pos this]
    exact (app_len L p w).2
theorem fk_cons (a : Int × Int) (M : List (Int × Int)) : ((a :: M).filter kf).length = (if kf a = true then 1 else 0) + (M.filter kf).length := by
  by_cases h : kf a = true
  · rw [List.filter_cons_of_pos h, if_pos h, List.length_cons]; omega
  · rw [List.filter_cons_of_neg h, if_neg h]; omega
section
variable {ρ : Nat → Nat} {b ba ad w s lw ls : Nat} {X : List (Int × Int)} {lf bt : Int}
theorem resh_loop (N : Nat) (fa ri : Bool) {dn up : Int} (hd : -1000 ≤ dn ∧ dn ≤ 1000) (hu : -1000 ≤ up ∧ up ≤ 1000) (hXp : ∀ e ∈ X, -5000 ≤ e.1 ∧ e.1 ≤ 5000) : ∀ (XS R : List (Int × Int)) (h : hS) (f : Int) (i fuel : Nat),
    BO ρ h b ba ad w s lw ls → CR ρ lw h w X lf bt → CR ρ ls h s R 0 0 → X.drop i = XS → i ≤ X.length → (0 ≤ f ∧ f ≤ 8000) → zSum R + zSum XS ≤ 8000 → R.length + ((rl fa ri dn up f XS).filter kf).length ≤ capR h s →
    ∃ g f', f_Bench_reshape_28 N (XS.length + fuel) h b (bI fa) (bI ri) (iI dn) (iI up) (iI f) (iI i) = f_Bench_reshape_28 N fuel g b (bI fa) (bI ri) (iI dn) (iI up) (iI f') (iI X.length) ∧ tr ρ h (rg ls) ρ g ∧ CR ρ ls g s (apps R (rl fa ri dn up f XS)) 0 0 ∧ hm g = hm h ∧ capR g s = capR h s := by
  intro XS
  induction XS with
  | nil =>
    intro R h f i fuel B CX CS hXS hi hf hsum hlen
    have h1 := dr_nil hXS
    refine ⟨h, f, ?_, tr.rf, CS, rfl, rfl⟩
    rw [show i = X.length by omega, List.length_nil, Nat.zero_add]
  | cons e XS' ih =>
    intro R h f i fuel B CX CS hXS hi hf hsum hlen
    obtain ⟨hi2, he, ht⟩ := dr_cons hXS
    have hne := B.ne
    have hw := CX.ok.w (List.getElem_mem hi2)
    have hp := hXp _ (List.getElem_mem hi2)
    rw [he] at hw hp
    have hlx := CX.len
    have hpos : ∀ q ∈ XS', 1 ≤ q.2 := fun q hq => (CX.ok.1 q (List.mem_of_mem_drop (i := i + 1) (by rw [ht]; exact hq))).2.2
    have hnX : 0 ≤ zSum XS' := zSum_nn _ (fun q hq => by have := hpos q hq; omega)
    rw [zSum] at hsum
    rw [rl, fk_cons, fk_cons] at hlen
    obtain ⟨w1, hw1⟩ : ∃ w1, w1 = if fa = true then min f e.2 else 0 := ⟨_, rfl⟩
    obtain ⟨w2, hw2⟩ : ∃ w2, w2 = if ri = true then e.2 - min f e.2 else 0 := ⟨_, rfl⟩
    have b1 : 0 ≤ w1 ∧ w1 ≤ min f e.2 := by rw [hw1]; split <;> omega
    have b2 : 0 ≤ w2 ∧ w2 ≤ e.2 - min f e.2 := by rw [hw2]; split <;> omega
    rw [← hw1, ← hw2] at hlen
    obtain ⟨g1, e1, e2, e3, e4, e5⟩ := cappend_is N CS (p := e.1 - dn) (w := w1) (by omega) b1.1 (by omega) (by have := app_kf R (p := e.1 - dn) b1.1; omega)
    have B1 := B.keep e2 (fun q => hne.2.2.1 q.symm)
    have CX1 := CX.keep e2 (fun q => hne.1 q)
    have hl1 := app_kf R (p := e.1 - dn) b1.1
    have hl2 := app_kf (app R (e.1 - dn) w1) (p := e.1 + up) b2.1
    obtain ⟨g2, a1, a2, a3, a4, a5⟩ := cappend_is N e3 (p := e.1 + up) (w := w2) (by omega) b2.1 (by rw [app_sum b1.1]; omega) (by rw [e4]; omega)
    have B2 := B1.keep a2 (fun q => hne.2.2.1 q.symm)
    have CX2 := CX1.keep a2 (fun q => hne.1 q)
    obtain ⟨g3, f3, c1, c2, c3, c4, c5⟩ := ih (app (app R (e.1 - dn) w1) (e.1 + up) w2) g2 (f - min f e.2) (i + 1) fuel B2 CX2 a3 ht (by omega) (by omega) (by rw [app_sum b2.1, app_sum b1.1]; omega) (by rw [a4, e4]; omega)
    refine ⟨g3, f3, ?_, e2.trans (a2.trans c2), ?_, by rw [c4, a5, e5], by rw [c5, a4, e4]⟩
    · rw [← c1, List.length_cons, show XS'.length + 1 + fuel = (XS'.length + fuel) + 1 by omega]
      generalize hF : f_Bench_reshape_28 N (XS'.length + fuel) = F
      have hrec : f_Bench_reshape_28 N (XS'.length + fuel + 1) h b (bI fa) (bI ri) (iI dn) (iI up) (iI f) (iI i) = f_Bench_reshape_88 N F h b (bI fa) (bI ri) (iI dn) (iI up) (iI (f - min f e.2)) (iI i) (iI (min f e.2)) (some s) (iI (e.1 - dn)) (iI w1) := by
        generalize hF2 : f_Bench_reshape_88 = F2
        unfold f_Bench_reshape_28
        rw [gR_k B.k, B.2.1.1, gI_k CX.k, CX.f.1, if_neg (fun q => absurd ((iI_le (by omega) (by omega)).mp q) (by omega)), gR_k B.k, B.2.1.1, cv_k CX.k, weightOf_in N CX hi2, he, cl_s, jmn_is (by omega) (by omega), bn_i, iI_sub, bn_i, gR_k B.k, B.2.1.2.1, gR_k B.k, B.2.1.1, cv_k CX.k, placeOf_in N CX hi2, he, cl_s, iI_sub, hF2, hF]
        cases fa
        · rw [if_pos (show bI false = 0 from rfl), hw1]; rfl
        · rw [if_neg (show ¬ bI true = 0 by decide), hw1]; rfl
      rw [hrec]
      unfold f_Bench_reshape_88
      rw [cv_k CS.k, e1, cl_s, gR_k B1.k, B1.2.1.2.1, gR_k B1.k, B1.2.1.1, cv_k CX1.k, placeOf_in N CX1 hi2, he, cl_s, iI_add]
      have hfin : f_Bench_reshape_127 N F g1 b (bI fa) (bI ri) (iI dn) (iI up) (iI (f - min f e.2)) (iI i) (some s) (iI (e.1 + up)) (iI w2) = F g2 b (bI fa) (bI ri) (iI dn) (iI up) (iI (f - min f e.2)) (iI ((i + 1 : Nat) : Int)) := by
        unfold f_Bench_reshape_127
        rw [cv_k e3.k, a1, cl_s, bn_i, show (1 : Int32) = iI 1 from rfl, iI_add]
        rfl
      cases ri
      · rw [if_pos (show bI false = 0 from rfl), show (0 : Int32) = iI w2 by rw [hw2]; rfl]
        exact hfin
      · rw [if_neg (show ¬ bI true = 0 by decide), gR_k B1.k, B1.2.1.1, cv_k CX1.k, weightOf_in N CX1 hi2, he, cl_s, iI_sub, show e.2 - min f e.2 = w2 by rw [hw2]; rfl]
        exact hfin
    · rw [rl, apps, apps, ← hw1, ← hw2]
      exact c3
theorem resh_is (N : Nat) (hN : 20000 ≤ N) {h : hS} (B : BO ρ h b ba ad w s lw ls) (CX : CR ρ lw h w X lf bt) (CS : CB ρ ls h s) (hXp : ∀ e ∈ X, -5000 ≤ e.1 ∧ e.1 ≤ 5000) (hXs : zSum X ≤ 5000) (fa ri : Bool) {dn up : Int} (hd : -1000 ≤ dn ∧ dn ≤ 1000) (hu : -1000 ≤ up ∧ up ≤ 1000) :
    ∃ ρ' g, f_Bench_reshape N h b (bI fa) (bI ri) (iI dn) (iI up) = some ((), g) ∧ tr ρ h RV ρ' g ∧ hm g + (rst (capR g w) + rst (capR g s)) ≤ hm h + (rst (capR h w) + rst (capR h s)) ∧ BO ρ' g b ba ad s w ls lw ∧ CR ρ' ls g s (apps [] (rl fa ri dn up lf X)) (if fa = true then lf else 0) bt ∧ CR ρ' lw g w X lf bt := by
  have hne := B.ne
  have ox := CX.ok
  have hlx := len_sum (fun e he => (ox.1 e he).2.2)
  have tls : ∀ q, rg ls q → RV q := fun q hq => by have : q = ls := hq; unfold RV; rcases B.2.2 with ⟨_, z⟩ | ⟨_, z⟩ <;> omega
  obtain ⟨r, q1, q2⟩ := id CS
  obtain ⟨ρ1, g1, e1, e2, e3, e4, e5⟩ := cclear_is N CS (room := X.length + 1) (by omega)
  have B1 := B.keep e2 (fun q => hne.2.2.1 q.symm)
  have CX1 := CX.keep e2 (fun q => hne.1 q)
  obtain ⟨fuel, hfu⟩ : ∃ fuel, N = X.length + (fuel + 1) := ⟨N - X.length - 1, by omega⟩
  have hlen := rl_len fa ri dn up X lf (ox.2.2.1).1 (fun e he => (ox.1 e he).2.2)
  obtain ⟨g2, f2, a1, a2, a3, a4, a5⟩ := resh_loop N fa ri hd hu hXp X [] g1 lf 0 (fuel + 1) B1 CX1 e3 (List.drop_zero ..) (Nat.zero_le _) ox.2.2.1 (by simp [zSum]; omega) (by simp; omega)
  have B2 := B1.keep a2 (fun q => hne.2.2.1 q.symm)
  have CX2 := CX1.keep a2 (fun q => hne.1 q)
  obtain ⟨lf', hlf'⟩ : ∃ lf', lf' = if fa = true then lf else 0 := ⟨_, rfl⟩
  have hb' : 0 ≤ lf' ∧ lf' ≤ 8000 := by have := ox.2.2.1; rw [hlf']; split <;> omega
  rw [← hlf']
  have C3 := a3.left (v := lf') hb'
  have T3 : tr ρ1 g2 (rg ls) ρ1 (s_i g2 s 2 (iI lf')) := tr_si a3.lab.1
  have B3 := B2.keep T3 (fun q => hne.2.2.1 q.symm)
  have CX3 := CX2.keep T3 (fun q => hne.1 q)
  have C4 := C3.bottom (v := bt) ox.2.2.2
  have T4 : tr ρ1 (s_i g2 s 2 (iI lf')) (rg ls) ρ1 (s_j (s_i g2 s 2 (iI lf')) s 4 (lI bt)) := tr_sj C3.lab.1
  have B4 := B3.keep T4 (fun q => hne.2.2.1 q.symm)
  have CX4 := CX3.keep T4 (fun q => hne.1 q)
  obtain ⟨g5, b1, b2, b3, b4⟩ := swap_is N B4
  refine ⟨ρ1, g5, ?_, (e2.mono tls).trans ((a2.mono tls).trans ((T3.mono tls).trans ((T4.mono tls).trans (b2.mono (fun q hq => Or.inl hq))))), ?_, b3, C4.keep b2 (fun q => hne.2.2.1 q), CX4.keep b2 (fun q => hne.2.1 q)⟩
  · unfold f_Bench_reshape
    rw [gR_k B.k, B.2.1.2.1, gR_k B.k, B.2.1.1, gI_k CX.k, CX.f.1, cv_k (show h_k h s = 3 + 1 from q1.1), show (1 : Int32) = iI 1 from rfl, iI_add, show (X.length : Int) + 1 = ((X.length + 1 : Nat) : Int) by omega, e1, cl_s]
    unfold f_Bench_reshape_16
    have hloop : f_Bench_reshape_28 N N g1 b (bI fa) (bI ri) (iI dn) (iI up) (iI lf) (0 : Int32) = f_Bench_reshape_28 N (fuel + 1) g2 b (bI fa) (bI ri) (iI dn) (iI up) (iI f2) (iI X.length) := by
      rw [← a1, ← hfu]; rfl
    rw [gR_k B1.k, B1.2.1.1, gI_k CX1.k, CX1.f.2.1, hloop]
    have hend : f_Bench_reshape_155 N g2 b (some s) (iI lf') = some ((), g5) := by
      unfold f_Bench_reshape_155
      rw [pI_k a3.k, gR_k B3.k, B3.2.1.2.1, gR_k B3.k, B3.2.1.1, gJ_k CX3.k, CX3.f.2.2.2, pJ_k C3.k, cv_k B4.k, b1, cl_s]
    unfold f_Bench_reshape_28
    rw [gR_k B2.k, B2.2.1.1, gI_k CX2.k, CX2.f.1, if_pos ((iI_le (by omega) (by omega)).mpr (by omega)), gR_k B2.k, B2.2.1.2.1]
    cases fa
    · rw [if_pos (show bI false = 0 from rfl), show (0 : Int32) = iI lf' by rw [hlf']; rfl]
      exact hend
    · rw [if_neg (show ¬ bI true = 0 by decide), gR_k B2.k, B2.2.1.1, gI_k CX2.k, CX2.f.2.1, show lf = lf' by rw [hlf']; rfl]
      exact hend
  · have hcw : capR g5 w = capR h w := by
      rw [CX4.cap b2 (fun q => hne.2.1 q), CX3.cap T4 (fun q => hne.1 q), CX2.cap T3 (fun q => hne.1 q), CX1.cap a2 (fun q => hne.1 q), CX.cap e2 (fun q => hne.1 q)]
    have hcs : capR g5 s = capR g1 s := by
      rw [C4.cap b2 (fun q => hne.2.2.1 q), ← a5]; rfl
    have hmm : hm g5 = hm g1 := by rw [b4, ← a4]; rfl
    rw [hcw, hcs, hmm]
    omega
end
