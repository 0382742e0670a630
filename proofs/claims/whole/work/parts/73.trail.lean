/-! THE TRAIL (label 12) -/
theorem zT_inv {p : Nat → Int × Int × Int} {Y : Nat → Nat → Int} {n : Nat} (hA : ∀ j, j < n → okArg (p j).1 (p j).2.1 (p j).2.2 ∧ ((p j).1 = 8 → zInv (Y j))) (hok : ∀ j, j < n → okS p Y (-1) j) : ∀ i, i ≤ n → zInv (zT p Y (-1) i) := by
  intro i
  induction i with
  | zero => intro _; exact zInv_0
  | succ i ih =>
    intro hi
    have h1 := (okS_go (show ¬ (i : Int) = -1 by omega)).mp (hok i (by omega))
    obtain ⟨h2, h3⟩ := hA i (by omega)
    rw [zT_go (by omega)]
    exact (zStep_sm (ih (by omega)) h2 h3 h1.1).inv h1.2
theorem CH.arg {ρ : Nat → Nat} {l : Nat} {h : hS} {c n : Nat} {p : Nat → Int × Int × Int} {Y : Nat → Nat → Int} (C : CH ρ l h c n p Y) : ∀ j, j < n → okArg (p j).1 (p j).2.1 (p j).2.2 ∧ ((p j).1 = 8 → zInv (Y j)) := by
  intro j hj
  obtain ⟨sa, q1, q2, q3, q4, q5⟩ := C
  obtain ⟨st, z1, z2⟩ := q5 j hj
  exact ⟨z2.2.2.1, fun e => by obtain ⟨k, _, _, w⟩ := z2.2.2.2 e; exact w⟩
/-- the ends of the flat of a table, in their order; far away only on their sides -/
theorem flat_ends {Z : Nat → Int} (h : zVee Z) : ((zTurn Z 0 = -100000000 ∨ (-5000 ≤ zTurn Z 0 ∧ zTurn Z 0 ≤ 5000)) ∧ (zTurn Z 1 = 100000000 ∨ (-5000 ≤ zTurn Z 1 ∧ zTurn Z 1 ≤ 5000))) ∧ zTurn Z 0 ≤ zTurn Z 1 := by
  have h0 := h.2.1
  have h1 := h.2.2
  rcases zTurn_spec Z 0 with ⟨a1, a2⟩ | ⟨a1, a2⟩ | ⟨j, a1, a2, a3, a4⟩
  · rcases zTurn_spec Z 1 with ⟨b1, b2⟩ | ⟨b1, b2⟩ | ⟨i, b1, b2, b3, b4⟩
    · exfalso; omega
    · rw [a1, b1]; exact ⟨⟨Or.inl rfl, Or.inl rfl⟩, by omega⟩
    · rw [a1, b2]; exact ⟨⟨Or.inl rfl, Or.inr (by omega)⟩, by omega⟩
  · exfalso; omega
  · rcases zTurn_spec Z 1 with ⟨b1, b2⟩ | ⟨b1, b2⟩ | ⟨i, b1, b2, b3, b4⟩
    · exfalso; omega
    · rw [a2, b1]; exact ⟨⟨Or.inr (by omega), Or.inl rfl⟩, by omega⟩
    · rw [a2, b2]
      refine ⟨⟨Or.inr (by omega), Or.inr (by omega)⟩, ?_⟩
      rcases Nat.lt_or_ge i j with q | q
      · exfalso
        have := zS_le h.1 (show i + 1 ≤ j by omega)
        omega
      · omega
theorem ft_near {f t y : Int} (hf : f = -100000000 ∨ (-5000 ≤ f ∧ f ≤ 5000)) (ht : t = 100000000 ∨ (-5000 ≤ t ∧ t ≤ 5000)) (hft : f ≤ t) (hy : -10000000 ≤ y ∧ y ≤ 10000000) : min (max y (ft f)) (ft t) = zNear f t y ∧ min y (ft t) = min y (zNear f t y) ∧ max y (ft f) = max y (zNear f t y) := by
  unfold ft zNear
  rcases hf with hf | hf <;> rcases ht with ht | ht
  · subst hf; subst ht; simp; omega
  · subst hf
    simp only [show ¬ t = 100000000 by omega, show ¬ t = -100000000 by omega, if_false]
    simp
    by_cases h1 : t < y
    · simp [h1, show ¬ y < -100000000 by omega]; omega
    · simp [h1, show ¬ y < -100000000 by omega]; omega
  · subst ht
    simp only [show ¬ f = 100000000 by omega, show ¬ f = -100000000 by omega, if_false]
    simp
    by_cases h1 : y < f
    · simp [h1]; omega
    · simp [h1, show ¬ 100000000 < y by omega]; omega
  · simp only [show ¬ f = 100000000 by omega, show ¬ f = -100000000 by omega, show ¬ t = 100000000 by omega, show ¬ t = -100000000 by omega, if_false]
    by_cases h1 : y < f
    · simp [h1]; omega
    · by_cases h2 : t < y
      · simp [h1, h2]; omega
      · simp [h1, h2]; omega
def TO (ρ : Nat → Nat) (h : hS) (t fa ta : Nat) : Prop := (h_k h t = 11 ∧ ρ t = 12 ∧ t < h_x h) ∧ (h_r h t 1 = some fa ∧ ro h fa 40 ∧ ρ fa = 12 ∧ fa < h_x h) ∧ (h_r h t 2 = some ta ∧ ro h ta 40 ∧ ρ ta = 12 ∧ ta < h_x h) ∧ fa ≠ ta
theorem TO.keep {ρ ρ' : Nat → Nat} {h g : hS} {R : Nat → Prop} {t fa ta : Nat} (T : TO ρ h t fa ta) (q : tr ρ h R ρ' g) (hR : ¬ R 12) : TO ρ' g t fa ta ∧ h_r g t = h_r h t ∧ h_i g fa = h_i h fa ∧ h_i g ta = h_i h ta := by
  obtain ⟨q1, q2, q3, q4⟩ := T
  obtain ⟨a1, a2, a3, a4⟩ := q.2 t q1.2.2
  obtain ⟨b1, b2, b3, b4⟩ := q.2 fa q2.2.2.2
  obtain ⟨c1, c2, c3, c4⟩ := q.2 ta q3.2.2.2
  obtain ⟨a5, a6, a7⟩ := a4 (by rw [q1.2.1]; exact hR)
  obtain ⟨b5, b6, b7⟩ := b4 (by rw [q2.2.2.1]; exact hR)
  obtain ⟨c5, c6, c7⟩ := c4 (by rw [q3.2.2.1]; exact hR)
  have ht := q.1
  exact ⟨⟨⟨a1.trans q1.1, a3.trans q1.2.1, by omega⟩, ⟨by rw [a7]; exact q2.1, ⟨b1.trans q2.2.1.1, b2.trans q2.2.1.2⟩, b3.trans q2.2.2.1, by omega⟩, ⟨by rw [a7]; exact q3.1, ⟨c1.trans q3.2.1.1, c2.trans q3.2.1.2⟩, c3.trans q3.2.2.1, by omega⟩, q4⟩, a7, b5, c5⟩
def RT : Nat → Prop := fun q => q = 12 ∨ RW q
/-- what is laid ahead of the first i steps -/
def laidT (h : hS) (fa ta : Nat) (p : Nat → Int × Int × Int) (Y : Nat → Nat → Int) (i : Nat) : Prop := ∀ j, j < i → h_i h fa j = iI (ft (zTurn (zT p Y (-1) j) 0)) ∧ h_i h ta j = iI (ft (zTurn (zT p Y (-1) j) 1))
section
variable {b ba ad l c n t fa ta : Nat} {p : Nat → Int × Int × Int} {Y : Nat → Nat → Int}
theorem lay_loop (N : Nat) (hN : 20000 ≤ N) (hl : ¬ RT l) (hok : ∀ j, j < n → okS p Y (-1) j) : ∀ (m : Nat) (ρ : Nat → Nat) (h : hS) (i fuel : Nat), i + m = n → CH ρ l h c n p Y → BS ρ h b ba ad (zT p Y (-1) i) → TO ρ h t fa ta → h_r h t 0 = some c → laidT h fa ta p Y i →
    ∃ ρ' g, f_Trail_lay_11 N (m + (fuel + 1)) h t (some b) (iI i) = some ((), g) ∧ tr ρ h RT ρ' g ∧ hm g + brs g b ≤ hm h + brs h b ∧ BX ρ' g b ba ad ∧ TO ρ' g t fa ta ∧ h_r g t 0 = some c ∧ laidT g fa ta p Y n := by
  intro m
  induction m with
  | zero =>
    intro ρ h i fuel hi C S T hc hL
    have hs := C.sz
    refine ⟨ρ, h, ?_, tr.rf, Nat.le_refl _, S.x, T, hc, by rw [show n = i by omega]; exact hL⟩
    rw [Nat.zero_add]
    unfold f_Trail_lay_11 f_Trail_lay_75
    rw [gR_k (show h_k h t = 10 + 1 from T.1.1), hc, gI_k C.k, hs.1, if_pos ((iI_le (by omega) (by omega)).mpr (by omega))]
  | succ m ih =>
    intro ρ h i fuel hi C S T hc hL
    have hs := C.sz
    have hlW : ¬ RW l := fun q => hl (Or.inr q)
    have hl12 : ¬ rg 12 l := fun q => hl (Or.inl q)
    have e2 : ¬ (i : Int) = -1 := by omega
    obtain ⟨w, s, lw, ls, B, cz, _⟩ := id S
    have low := clow_is N (by omega) cz.1 (s := 0) (by omega)
    rw [cUnit_turn cz.2.1.1 0] at low
    -- the first row
    have T1 : tr ρ h (rg 12) ρ (s_i h fa i (iI (ft (zTurn (zT p Y (-1) i) 0)))) := tr_si T.2.1.2.2.1
    have S1 := S.keep T1 (fun q hq z => by unfold RB at hq; have : q = 12 := z; omega)
    have C1 := C.keep T1 (fun z => by cases z) hl12
    obtain ⟨w1, s1, lw1, ls1, B1, cz1, _⟩ := id S1
    have high := chigh_is N (by omega) cz1.1 (s := 0) (by omega)
    rw [show -zT p Y (-1) i 0 + 0 + 1 = -zT p Y (-1) i 0 + 1 by omega, cUnit_turn cz1.2.1.1 1] at high
    have T2 : tr ρ (s_i h fa i (iI (ft (zTurn (zT p Y (-1) i) 0)))) (rg 12) ρ (s_i (s_i h fa i (iI (ft (zTurn (zT p Y (-1) i) 0)))) ta i (iI (ft (zTurn (zT p Y (-1) i) 1)))) := tr_si T.2.2.1.2.2.1
    obtain ⟨g2, hg2⟩ : ∃ g2, g2 = s_i (s_i h fa i (iI (ft (zTurn (zT p Y (-1) i) 0)))) ta i (iI (ft (zTurn (zT p Y (-1) i) 1))) := ⟨_, rfl⟩
    rw [← hg2] at T2
    have S2 := S1.keep T2 (fun q hq z => by unfold RB at hq; have : q = 12 := z; omega)
    have C2 := C1.keep T2 (fun z => by cases z) hl12
    have TO2 : TO ρ g2 t fa ta := by rw [hg2]; exact T
    have hc2 : h_r g2 t 0 = some c := by rw [hg2]; exact hc
    have hL2 : laidT g2 fa ta p Y (i + 1) := by
      intro j hj
      have hft : ¬ fa = ta := T.2.2.2
      have htf : ¬ ta = fa := fun q => hft q.symm
      have hfv : h_i g2 fa j = if j = i then iI (ft (zTurn (zT p Y (-1) i) 0)) else h_i h fa j := by
        rw [hg2]; simp [h_i_si, hft, upd]
      have htv : h_i g2 ta j = if j = i then iI (ft (zTurn (zT p Y (-1) i) 1)) else h_i h ta j := by
        rw [hg2]; simp [h_i_si, htf, upd]
      rw [hfv, htv]
      by_cases hji : j = i
      · rw [if_pos hji, if_pos hji, hji]; exact ⟨rfl, rfl⟩
      · rw [if_neg hji, if_neg hji]; exact hL j (by omega)
    obtain ⟨s0, s3, s4⟩ := stepAt_in N C2 (show i < n by omega)
    obtain ⟨ρ3, g3, v, a1, a2, a3, a4, a5⟩ := applyStep_is N hN S2 s4
    obtain ⟨v1, S3⟩ := a4 ((okS_go e2).mp (hok i (by omega)))
    rw [← zT_go e2] at S3
    have C3 := C2.keep a2 (fun q => by unfold RW at q; omega) hlW
    obtain ⟨TO3, k1, k2, k3⟩ := TO2.keep a2 (fun q => by unfold RW at q; omega)
    obtain ⟨ρ4, g4, b1, b2, b3, b4, b5, b6, b7⟩ := ih ρ3 g3 (i + 1) fuel (by omega) C3 S3 TO3 (by rw [k1]; exact hc2) (fun j hj => by rw [k2, k3]; exact hL2 j hj)
    have hm2 : hm g2 = hm h := by rw [hg2]; rfl
    have hb2 : brs g2 b = brs h b := by
      have z1 := (S.x.keep T1 (fun q hq z => by unfold RB at hq; have : q = 12 := z; omega)).2
      have z2 := (S1.x.keep T2 (fun q hq z => by unfold RB at hq; have : q = 12 := z; omega)).2
      rw [z2, z1]
    refine ⟨ρ4, g4, ?_, (T1.mono (fun q hq => Or.inl hq)).trans ((T2.mono (fun q hq => Or.inl hq)).trans ((a2.mono (fun q hq => Or.inr hq)).trans b2)), by omega, b4, b5, b6, b7⟩
    rw [show m + 1 + (fuel + 1) = (m + (fuel + 1)) + 1 by omega]
    unfold f_Trail_lay_11 f_Trail_lay_68
    have ht : h_k h t = 10 + 1 := T.1.1
    rw [gR_k ht, hc, gI_k C.k, hs.1, if_neg (fun q => absurd ((iI_le (by omega) (by omega)).mp q) (by omega)), if_neg (show ¬ (40 : Int32) ≤ iI i from fun q => absurd ((iI_le (a := 40) (by omega) (by omega)).mp q) (by omega)), gR_k ht, T.2.1.1, gR_k B.k, B.2.1.1, cv_k cz.1.k, show (0 : Int32) = iI 0 from rfl, low, cl_s, uI_iI T.2.1.2.1 (by omega) (by omega) (by omega), show ((i : Int)).toNat = i by omega]
    rw [gR_k (h := s_i h fa i _) ht, show h_r (s_i h fa i (iI (ft (zTurn (zT p Y (-1) i) 0)))) t 2 = some ta from T.2.2.1.1, gR_k B1.k, B1.2.1.1, cv_k cz1.1.k, high, cl_s, uI_iI (h := s_i h fa i _) T.2.2.1.2.1 (by omega) (by omega) (by omega), show ((i : Int)).toNat = i by omega, ← hg2]
    rw [gR_k (show h_k g2 t = 10 + 1 from TO2.1.1), hc2, cv_k C2.k, s3, cl_s, cv_k S2.x.k, a1, cl_s, bn_i, show (1 : Int32) = iI 1 from rfl, iI_add, show (i : Int) + 1 = ((i + 1 : Nat) : Int) by omega]
    exact b1
theorem lay_is (N : Nat) (hN : 20000 ≤ N) (hl : ¬ RT l) (hok : ∀ j, j < n → okS p Y (-1) j) {ρ : Nat → Nat} {h : hS} (C : CH ρ l h c n p Y) (B : BX ρ h b ba ad) (T : TO ρ h t fa ta) :
    ∃ ρ' g, f_Trail_lay N h t (some c) (some b) = some ((), g) ∧ tr ρ h RT ρ' g ∧ hm g + brs g b ≤ hm h + brs h b ∧ BX ρ' g b ba ad ∧ TO ρ' g t fa ta ∧ h_r g t 0 = some c ∧ laidT g fa ta p Y n ∧ CH ρ' l g c n p Y := by
  have ht : h_k h t = 10 + 1 := T.1.1
  have hlW : ¬ RW l := fun q => hl (Or.inr q)
  have hl12 : ¬ rg 12 l := fun q => hl (Or.inl q)
  have T1 : tr ρ h (rg 12) ρ (s_r h t 0 (some c)) := tr_sr T.1.2.1
  obtain ⟨B1, hb1⟩ := B.keep T1 (fun q hq z => by unfold RB at hq; have : q = 12 := z; omega)
  have C1 := C.keep T1 (fun z => by cases z) hl12
  have TO1 : TO ρ (s_r h t 0 (some c)) t fa ta := ⟨T.1, ⟨by simp [h_r_sr, va_up, T.2.1.1], T.2.1.2⟩, ⟨by simp [h_r_sr, va_up, T.2.2.1.1], T.2.2.1.2⟩, T.2.2.2⟩
  obtain ⟨ρ2, g2, e1, e2, e3, e4⟩ := startAnew_is N B1
  have C2 := C1.keep e2 (fun q => by unfold RW at q; omega) hlW
  obtain ⟨TO2, k1, k2, k3⟩ := TO1.keep e2 (fun q => by unfold RW at q; omega)
  have hn := C.sz.2
  obtain ⟨fuel, hfu⟩ : ∃ fuel, N = n + (fuel + 1) := ⟨N - n - 1, by omega⟩
  have hc2 : h_r g2 t 0 = some c := by rw [k1]; simp [h_r_sr, va_up]
  obtain ⟨ρ4, g4, b1, b2, b3, b4, b5, b6, b7⟩ := lay_loop N hN hl hok n ρ2 g2 0 fuel (by omega) C2 e4 TO2 hc2 (fun j hj => by omega)
  have hm1 : hm (s_r h t 0 (some c)) = hm h := rfl
  refine ⟨ρ4, g4, ?_, (T1.mono (fun q hq => Or.inl hq)).trans ((e2.mono (fun q hq => Or.inr hq)).trans b2), by omega, b4, b5, b6, b7, C2.keep b2 (fun q => by unfold RT RW at q; omega) hl⟩
  unfold f_Trail_lay f_Trail_lay_9
  rw [pR_k ht, cv_k B1.k, e1, cl_s]
  rw [← hfu] at b1
  exact b1
section
variable {ρ : Nat → Nat} {h : hS}
theorem ahead_is (N : Nat) (hA : ∀ i, i ≤ n → zInv (zT p Y (-1) i)) (C : CH ρ l h c n p Y) (T : TO ρ h t fa ta) (hc : h_r h t 0 = some c) (hL : laidT h fa ta p Y n) {i : Nat} (hi : i < n) {x : Int} (hx : -1000000 ≤ x ∧ x ≤ 1000000) : f_Trail_placeAhead N h t (iI i) (iI x) = some (iI (zBack (p i).1 (p i).2.1 (p i).2.2 (zTurn (zT p Y (-1) i) 0) (zTurn (zT p Y (-1) i) 1) x), h) := by
  have hs := C.sz
  obtain ⟨s0, s1, s2⟩ := stepAt_in N C hi
  obtain ⟨t1, t2, t3, t4⟩ := id s2
  have hk : h_k h s0 = 8 + 1 := t1.1
  have ht : h_k h t = 10 + 1 := T.1.1
  obtain ⟨l1, l2⟩ := hL i hi
  obtain ⟨⟨f1, f2⟩, f3⟩ := flat_ends (hA i (by omega)).1
  obtain ⟨n1, n2, n3⟩ := ft_near f1 f2 f3 (y := x) (by omega)
  generalize zTurn (zT p Y (-1) i) 0 = f at l1 f1 f3 n1 n2 n3 ⊢
  generalize zTurn (zT p Y (-1) i) 1 = u at l2 f2 f3 n1 n2 n3 ⊢
  have rf : -1000000000 ≤ ft f ∧ ft f ≤ 1000000000 := by
    unfold ft
    rcases f1 with q | q
    · rw [if_neg (by omega), if_pos q]; omega
    · rw [if_neg (by omega), if_neg (by omega)]; omega
  have ru : -1000000000 ≤ ft u ∧ ft u ≤ 1000000000 := by
    unfold ft
    rcases f2 with q | q
    · rw [if_pos q]; omega
    · rw [if_neg (by omega), if_neg (by omega)]; omega
  obtain ⟨⟨kd, a, w⟩, hp⟩ : ∃ q, p i = q := ⟨_, rfl⟩
  simp only [hp] at t2 t3 ⊢
  obtain ⟨k0, k1, k2, k3, k4⟩ := t3
  unfold f_Trail_placeAhead f_Trail_placeAhead_23
  rw [gR_k ht, hc, cv_k C.k, s1, cl_s, if_neg (by simp), if_neg (show ¬ iI i < (0 : Int32) from fun q => absurd ((iI_lt (b := 0) (by omega) (by omega)).mp q) (by omega)), if_pos (show iI i < (40 : Int32) from (iI_lt (b := 40) (by omega) (by omega)).mpr (by omega)), gI_k hk, t2.1]
  unfold zBack
  rcases (show kd = 0 ∨ kd = 1 ∨ kd = 2 ∨ kd = 3 ∨ kd = 4 ∨ kd = 5 ∨ kd = 6 ∨ kd = 7 ∨ kd = 8 by omega) with e | e | e | e | e | e | e | e | e <;> subst e
  · rfl
  · rfl
  · rfl
  · rw [if_pos (show iI 3 = (3 : Int32) from rfl), gI_k hk, t2.2.1, iI_sub, if_pos rfl]
  · have k4' := k3 rfl
    have nb := zNear_b (f := f) (t := u) (y := x) (B := 1000000) (by rcases f1 with q | q <;> omega) (by rcases f2 with q | q <;> omega) (by omega) (by omega)
    rw [if_neg (show ¬ iI 4 = (3 : Int32) by decide), if_pos (show iI 4 = (4 : Int32) from rfl), gR_k ht, T.2.1.1, aI_iI T.2.1.2.1 (by omega) (by omega) (by omega), gR_k ht, T.2.2.1.1, aI_iI T.2.2.1.2.1 (by omega) (by omega) (by omega), show ((i : Int)).toNat = i by omega, l1, l2, clamp_is N h (by omega) (by omega) (by omega), cl_s, n1, gI_k hk, gI_k hk, t2.2.1, t2.2.2, iI_sub, iI_add, clamp_is N h (by omega) (by omega) (by omega), cl_s, if_neg (by decide), if_pos rfl]
    congr 3
    unfold zNear
    split <;> (split <;> omega)
  · rw [if_neg (show ¬ iI 5 = (3 : Int32) by decide), if_neg (show ¬ iI 5 = (4 : Int32) by decide), if_pos (show iI 5 = (5 : Int32) from rfl), gR_k ht, T.2.2.1.1, aI_iI T.2.2.1.2.1 (by omega) (by omega) (by omega), show ((i : Int)).toNat = i by omega, l2, jmn_is (by omega) (by omega), n2, if_neg (by decide), if_neg (by decide), if_pos rfl]
  · rw [if_neg (show ¬ iI 6 = (3 : Int32) by decide), if_neg (show ¬ iI 6 = (4 : Int32) by decide), if_neg (show ¬ iI 6 = (5 : Int32) by decide), if_pos (show iI 6 = (6 : Int32) from rfl), gR_k ht, T.2.1.1, aI_iI T.2.1.2.1 (by omega) (by omega) (by omega), show ((i : Int)).toNat = i by omega, l1, jmx_is (by omega) (by omega), n3, if_neg (by decide), if_neg (by decide), if_neg (by decide), if_pos rfl]
  · rfl
  · rfl
theorem zPd_bd (hA : ∀ i, i ≤ n → zInv (zT p Y (-1) i)) (C : CH ρ l h c n p Y) {x : Int} (hx : -100000 ≤ x ∧ x ≤ 100000) : ∀ d : Nat, d ≤ n → -(100000 + 500 * (d : Int)) ≤ zPd p Y n x d ∧ zPd p Y n x d ≤ 100000 + 500 * (d : Int) := by
  intro d
  induction d with
  | zero => intro _; rw [zPd]; omega
  | succ d ih =>
    intro hd
    have h1 := ih (by omega)
    obtain ⟨⟨f1, f2⟩, f3⟩ := flat_ends (hA (n - (d + 1)) (by omega)).1
    have := zBack_b (C.arg (n - (d + 1)) (by omega)).1 (f := zTurn (zT p Y (-1) (n - (d + 1))) 0) (t := zTurn (zT p Y (-1) (n - (d + 1))) 1) (y := zPd p Y n x d) (B := 100000 + 500 * (d : Int)) (by rcases f1 with q | q <;> omega) (by rcases f2 with q | q <;> omega) (by omega) h1
    rw [zPd]
    omega
theorem behind_loop (N : Nat) (hA : ∀ i, i ≤ n → zInv (zT p Y (-1) i)) (C : CH ρ l h c n p Y) (T : TO ρ h t fa ta) (hc : h_r h t 0 = some c) (hL : laidT h fa ta p Y n) {x : Int} (hx : -100000 ≤ x ∧ x ≤ 100000) {many : Nat} (hm : many ≤ n) : ∀ (m d fuel : Nat), d + m = n - many → f_Trail_placeBehind_13 N (m + (fuel + 1)) h t (iI many) (iI (zPd p Y n x d)) (iI ((n : Int) - d - 1)) = some (iI (zPd p Y n x (n - many)), h) := by
  have hs := C.sz
  intro m
  induction m with
  | zero =>
    intro d fuel hd
    rw [Nat.zero_add]
    unfold f_Trail_placeBehind_13 f_Trail_placeBehind_38
    rw [show d = n - many by omega]
    by_cases h0 : many = 0
    · rw [if_pos (show iI ((n : Int) - (n - many : Nat) - 1) < (0 : Int32) from (iI_lt (b := 0) (by omega) (by omega)).mpr (by omega))]
    · rw [if_neg (show ¬ iI ((n : Int) - (n - many : Nat) - 1) < (0 : Int32) from fun q => absurd ((iI_lt (b := 0) (by omega) (by omega)).mp q) (by omega)), if_pos ((iI_lt (by omega) (by omega)).mpr (by omega))]
  | succ m ih =>
    intro d fuel hd
    have hb := zPd_bd hA C hx d (by omega)
    have ha := ahead_is N hA C T hc hL (i := n - (d + 1)) (by omega) (x := zPd p Y n x d) (by omega)
    rw [show m + 1 + (fuel + 1) = (m + (fuel + 1)) + 1 by omega]
    unfold f_Trail_placeBehind_13
    rw [if_neg (show ¬ iI ((n : Int) - d - 1) < (0 : Int32) from fun q => absurd ((iI_lt (b := 0) (by omega) (by omega)).mp q) (by omega)), if_neg (fun q => absurd ((iI_lt (by omega) (by omega)).mp q) (by omega)), cv_k (show h_k h t = 10 + 1 from T.1.1), show (n : Int) - d - 1 = ((n - (d + 1) : Nat) : Int) by omega, ha, cl_s, bn_i, show (-1 : Int32) = iI (-1) from rfl, iI_add, show ((n - (d + 1) : Nat) : Int) + -1 = (n : Int) - ((d + 1 : Nat) : Int) - 1 by omega]
    exact ih (d + 1) fuel (by omega)
theorem behind_is (N : Nat) (hN : 100 ≤ N) (hA : ∀ i, i ≤ n → zInv (zT p Y (-1) i)) (C : CH ρ l h c n p Y) (T : TO ρ h t fa ta) (hc : h_r h t 0 = some c) (hL : laidT h fa ta p Y n) {x : Int} (hx : -100000 ≤ x ∧ x ≤ 100000) {many : Nat} (hm : many ≤ n) : f_Trail_placeBehind N h t (iI many) (iI x) = some (iI (zPd p Y n x (n - many)), h) := by
  have hs := C.sz
  obtain ⟨fuel, hfu⟩ : ∃ fuel, N = (n - many) + (fuel + 1) := ⟨N - (n - many) - 1, by omega⟩
  have h1 := behind_loop N hA C T hc hL hx hm (n - many) 0 fuel (by omega)
  unfold f_Trail_placeBehind
  rw [gR_k (show h_k h t = 10 + 1 from T.1.1), hc, gI_k C.k, hs.1, show (1 : Int32) = iI 1 from rfl, iI_sub, bn_i]
  rw [← hfu] at h1
  have e : (n : Int) - ((0 : Nat) : Int) - 1 = (n : Int) - 1 := by omega
  rw [e] at h1
  exact h1
def zWd (p : Nat → Int × Int × Int) (Y : Nat → Nat → Int) (n : Nat) (x : Int) : Nat → Int
  | 0 => 0
  | d + 1 => zWd p Y n x d + (if zPd p Y n x d - zPd p Y n x (d + 1) < 0 then -(zPd p Y n x d - zPd p Y n x (d + 1)) else zPd p Y n x d - zPd p Y n x (d + 1))
theorem way_loop (N : Nat) (hA : ∀ i, i ≤ n → zInv (zT p Y (-1) i)) (C : CH ρ l h c n p Y) (T : TO ρ h t fa ta) (hc : h_r h t 0 = some c) (hL : laidT h fa ta p Y n) {x : Int} (hx : -100000 ≤ x ∧ x ≤ 100000) : ∀ (m d fuel : Nat), d + m = n → f_Trail_wayTo_15 N (m + (fuel + 1)) h t (iI (zWd p Y n x d)) (iI (zPd p Y n x d)) (iI ((n : Int) - d - 1)) = some (iI (zWd p Y n x n), h) := by
  have hs := C.sz
  intro m
  induction m with
  | zero =>
    intro d fuel hd
    rw [Nat.zero_add]
    unfold f_Trail_wayTo_15
    rw [show d = n by omega, if_pos (show iI ((n : Int) - n - 1) < (0 : Int32) from (iI_lt (b := 0) (by omega) (by omega)).mpr (by omega))]
  | succ m ih =>
    intro d fuel hd
    have hb := zPd_bd hA C hx d (by omega)
    have hb2 := zPd_bd hA C hx (d + 1) (by omega)
    have ha := ahead_is N hA C T hc hL (i := n - (d + 1)) (by omega) (x := zPd p Y n x d) (by omega)
    have he : zBack (p (n - (d + 1))).1 (p (n - (d + 1))).2.1 (p (n - (d + 1))).2.2 (zTurn (zT p Y (-1) (n - (d + 1))) 0) (zTurn (zT p Y (-1) (n - (d + 1))) 1) (zPd p Y n x d) = zPd p Y n x (d + 1) := rfl
    rw [he] at ha
    rw [show m + 1 + (fuel + 1) = (m + (fuel + 1)) + 1 by omega]
    unfold f_Trail_wayTo_15
    rw [if_neg (show ¬ iI ((n : Int) - d - 1) < (0 : Int32) from fun q => absurd ((iI_lt (b := 0) (by omega) (by omega)).mp q) (by omega)), cv_k (show h_k h t = 10 + 1 from T.1.1), show (n : Int) - d - 1 = ((n - (d + 1) : Nat) : Int) by omega, ha, cl_s, iI_sub, jab_is (by omega), iI_add, bn_i, bn_i, show (-1 : Int32) = iI (-1) from rfl, iI_add, show ((n - (d + 1) : Nat) : Int) + -1 = (n : Int) - ((d + 1 : Nat) : Int) - 1 by omega]
    exact ih (d + 1) fuel (by omega)
theorem way_is (N : Nat) (hN : 100 ≤ N) (hA : ∀ i, i ≤ n → zInv (zT p Y (-1) i)) (C : CH ρ l h c n p Y) (T : TO ρ h t fa ta) (hc : h_r h t 0 = some c) (hL : laidT h fa ta p Y n) {x : Int} (hx : -100000 ≤ x ∧ x ≤ 100000) : f_Trail_wayTo N h t (iI x) = some (iI (zWd p Y n x n), h) := by
  have hs := C.sz
  obtain ⟨fuel, hfu⟩ : ∃ fuel, N = n + (fuel + 1) := ⟨N - n - 1, by omega⟩
  have h1 := way_loop N hA C T hc hL hx n 0 fuel (by omega)
  unfold f_Trail_wayTo
  rw [gR_k (show h_k h t = 10 + 1 from T.1.1), hc, gI_k C.k, hs.1, show (1 : Int32) = iI 1 from rfl, iI_sub, bn_i]
  rw [← hfu] at h1
  have e : (n : Int) - ((0 : Nat) : Int) - 1 = (n : Int) - 1 := by omega
  rw [e] at h1
  exact h1
end
end
theorem zWay_d (C : Cs) (c : Nat) (x : Int) : ∀ (q i : Nat), i + q = (C c).1 → zWay C c x q i = zWd (C c).2.1 (C c).2.2 (C c).1 x q := by
  intro q
  induction q with
  | zero => intro i _; rfl
  | succ q ih =>
    intro i hi
    rw [zWay, zWd, ih (i + 1) (by omega)]
    have e1 : zPath C c x (i + 1) = zPd (C c).2.1 (C c).2.2 (C c).1 x q := by unfold zPath; rw [show (C c).1 - (i + 1) = q by omega]
    have e2 : zPath C c x i = zPd (C c).2.1 (C c).2.2 (C c).1 x (q + 1) := by unfold zPath; rw [show (C c).1 - i = q + 1 by omega]
    rw [e1, e2]
    omega
