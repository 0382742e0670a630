/-! WALKS along two curves -/
theorem kUp_go {x : Int} : ∀ {L : List (Int × Int)}, srt L → (∀ hU : kUp x L < L.length, (L[kUp x L]).1 = x + 1 → kUp (x + 1) L = kUp x L + 1 ∧ wt (x + 1) L = (L[kUp x L]).2) ∧ ((¬ ∃ hU : kUp x L < L.length, (L[kUp x L]).1 = x + 1) → kUp (x + 1) L = kUp x L ∧ wt (x + 1) L = 0) ∧ kUp x L ≤ L.length := by
  intro L
  induction L with
  | nil => intro _; exact ⟨fun hU => by simp at hU, fun _ => ⟨rfl, rfl⟩, Nat.le_refl _⟩
  | cons e t ih =>
    intro h
    obtain ⟨i1, i2, i3⟩ := ih h.2.2
    by_cases hx : x < e.1
    · have k0 : kUp x (e :: t) = 0 := by rw [kUp, if_pos hx]
      refine ⟨fun hU => ?_, fun hn => ?_, by rw [k0]; omega⟩
      · simp only [k0, List.getElem_cons_zero]
        intro he
        have ht : kUp (x + 1) t = 0 := by
          cases t with
          | nil => rfl
          | cons a s => rw [kUp, if_pos (by have := h.2.1 a (List.mem_cons_self ..); omega)]
        rw [kUp, if_neg (by omega), ht, wt_cons, if_pos he, wt_0 (fun q hq => by have := h.2.1 q hq; omega)]
        exact ⟨rfl, by omega⟩
      · have he : ¬ e.1 = x + 1 := fun q => hn ⟨by rw [k0]; simp, by simp only [k0, List.getElem_cons_zero]; exact q⟩
        rw [k0, kUp, if_pos (by omega), wt_cons, if_neg he, wt_0 (fun q hq => by have := h.2.1 q hq; omega)]
        exact ⟨rfl, rfl⟩
    · have k0 : kUp x (e :: t) = kUp x t + 1 := by rw [kUp, if_neg hx]
      have k1 : kUp (x + 1) (e :: t) = kUp (x + 1) t + 1 := by rw [kUp, if_neg (by omega)]
      have hw : wt (x + 1) (e :: t) = wt (x + 1) t := by rw [wt_cons, if_neg (by omega)]; omega
      refine ⟨fun hU => ?_, fun hn => ?_, by rw [k0]; simp; exact i3⟩
      · simp only [k0, List.getElem_cons_succ]
        intro he
        obtain ⟨a1, a2⟩ := i1 (by rw [k0] at hU; simpa using hU) he
        rw [k1, hw]
        exact ⟨by omega, a2⟩
      · obtain ⟨a1, a2⟩ := i2 (fun ⟨hU, he⟩ => hn ⟨by rw [k0]; simpa using hU, by simp only [k0, List.getElem_cons_succ]; exact he⟩)
        rw [k1, hw, k0]
        exact ⟨by omega, a2⟩
theorem slope_go (Z : Nat → Int) (x : Int) : zVal Z (x + 1 + 1) - zVal Z (x + 1) = (zVal Z (x + 1) - zVal Z x) + wt (x + 1) (zK Z) := by
  rw [zVal_slope, zVal_slope]
  unfold wt
  rw [zK_F]
  have : zF (fun p => if p ≤ x + 1 then 1 else 0) (zL Z) = zF (fun p => if p ≤ x then 1 else 0) (zL Z) + zF (fun q => if q = x + 1 then 1 else 0) (zL Z) := by
    rw [← zF_add]
    exact zF_congr _ (fun e _ _ => by
      by_cases h1 : e.1 ≤ x
      · rw [if_pos (by omega), if_pos h1, if_neg (by omega)]; rfl
      · by_cases h2 : e.1 = x + 1
        · rw [if_pos (by omega), if_neg h1, if_pos h2]; rfl
        · rw [if_neg (by omega), if_neg h1, if_neg h2]; rfl)
  omega
def WK (h : hS) (wk c : Nat) (x : Int) (Z : Nat → Int) : Prop := h_r h wk 0 = some c ∧ h_i h wk 1 = iI x ∧ h_i h wk 2 = iI (zVal Z (x + 1) - zVal Z x) ∧ h_i h wk 3 = iI (kUp x (zK Z)) ∧ h_j h wk 4 = lI (zVal Z x)
theorem slope_bd {Z : Nat → Int} (h : zInv Z) (x : Int) : -5000 ≤ zVal Z (x + 1) - zVal Z x ∧ zVal Z (x + 1) - zVal Z x ≤ 5000 := by
  rw [zVal_slope]
  have h1 : 0 ≤ zF (fun p => if p ≤ x then 1 else 0) (zL Z) := by
    rw [← zK_F]; exact zF_nn _ (fun e he => by have := srt_pos (zK_srt h.1.1) e he; omega) (fun p => by split <;> omega)
  have h2 : 0 ≤ zF (fun p => if p ≤ x then 0 else 1) (zL Z) := by
    rw [← zK_F]; exact zF_nn _ (fun e he => by have := srt_pos (zK_srt h.1.1) e he; omega) (fun p => by split <;> omega)
  have h3 : zF (fun p => if p ≤ x then 1 else 0) (zL Z) + zF (fun p => if p ≤ x then 0 else 1) (zL Z) = zWts Z := by
    rw [← zF_add, zWts_F]
    exact zF_congr _ (fun e _ _ => by split <;> rfl)
  have h4 := h.rng.1
  have h5 := h.2.1.1
  have h6 := h.1.2.1
  omega
section
variable {ρ : Nat → Nat} {l wk c : Nat} {h : hS} {Z : Nat → Int}
theorem start_is (N : Nat) (hN : 20000 ≤ N) (hk : h_k h wk = 12) (hl : ρ wk ≠ l) (C : CZ ρ l h c Z) {x : Int} (hx : -100000 ≤ x ∧ x ≤ 100000) : ∃ g, f_Walk_startAt N h wk (some c) (iI x) = some ((), g) ∧ tr ρ h (rg (ρ wk)) ρ g ∧ WK g wk c x Z ∧ hm g = hm h := by
  have hkk : ∀ g, h_k g wk = h_k h wk → h_k g wk = 11 + 1 := fun g e => e.trans hk
  have T1 : tr ρ h (rg (ρ wk)) ρ (s_r h wk 0 (some c)) := tr_sr rfl
  have T2 : tr ρ h (rg (ρ wk)) ρ (s_i (s_r h wk 0 (some c)) wk 1 (iI x)) := T1.trans (tr_si rfl)
  have C2 := C.keep T2 (fun q => hl q.symm)
  have T3 : tr ρ h (rg (ρ wk)) ρ (s_i (s_i (s_r h wk 0 (some c)) wk 1 (iI x)) wk 2 (iI (zVal Z (x + 1) - zVal Z x))) := T2.trans (tr_si rfl)
  have C3 := C.keep T3 (fun q => hl q.symm)
  have T4 : tr ρ h (rg (ρ wk)) ρ (s_i (s_i (s_i (s_r h wk 0 (some c)) wk 1 (iI x)) wk 2 (iI (zVal Z (x + 1) - zVal Z x))) wk 3 (iI (kUp x (zK Z)))) := T3.trans (tr_si rfl)
  have C4 := C.keep T4 (fun q => hl q.symm)
  have v1 := cslope_is N (by omega) C2.1 (x := x) (by omega)
  rw [kSl_val C.2.1.1] at v1
  have v2 := cupto_is N (by omega) C3.1 (x := x) (by omega)
  have v3 := cval_is N (by omega) C4.1 (x := x) (by omega)
  rw [kv_val C.2.1] at v3
  refine ⟨_, ?_, T4.trans (tr_sj (v := lI (zVal Z x)) (k := 4) rfl), ⟨?_, ?_, ?_, ?_, ?_⟩, rfl⟩
  · unfold f_Walk_startAt
    rw [pR_k (show h_k h wk = 11 + 1 from hk), pI_k (show h_k (s_r h wk 0 (some c)) wk = 11 + 1 from hk), gR_k (show h_k (s_i (s_r h wk 0 (some c)) wk 1 (iI x)) wk = 11 + 1 from hk), gI_k (show h_k (s_i (s_r h wk 0 (some c)) wk 1 (iI x)) wk = 11 + 1 from hk)]
    rw [show h_r (s_i (s_r h wk 0 (some c)) wk 1 (iI x)) wk 0 = some c by simp [h_r_si, h_r_sr, va_up], show h_i (s_i (s_r h wk 0 (some c)) wk 1 (iI x)) wk 1 = iI x by simp [h_i_si, upd], cv_k C2.1.k, v1, cl_s]
    rw [pI_k (show h_k (s_i (s_r h wk 0 (some c)) wk 1 (iI x)) wk = 11 + 1 from hk), gR_k (show h_k (s_i (s_i (s_r h wk 0 (some c)) wk 1 (iI x)) wk 2 _) wk = 11 + 1 from hk), gI_k (show h_k (s_i (s_i (s_r h wk 0 (some c)) wk 1 (iI x)) wk 2 _) wk = 11 + 1 from hk)]
    rw [show h_r (s_i (s_i (s_r h wk 0 (some c)) wk 1 (iI x)) wk 2 (iI (zVal Z (x + 1) - zVal Z x))) wk 0 = some c by simp [h_r_si, h_r_sr, va_up], show h_i (s_i (s_i (s_r h wk 0 (some c)) wk 1 (iI x)) wk 2 (iI (zVal Z (x + 1) - zVal Z x))) wk 1 = iI x by simp [h_i_si, upd], cv_k C3.1.k, v2, cl_s]
    rw [pI_k (show h_k (s_i (s_i (s_r h wk 0 (some c)) wk 1 (iI x)) wk 2 _) wk = 11 + 1 from hk), gR_k (show h_k (s_i (s_i (s_i (s_r h wk 0 (some c)) wk 1 (iI x)) wk 2 _) wk 3 _) wk = 11 + 1 from hk), gI_k (show h_k (s_i (s_i (s_i (s_r h wk 0 (some c)) wk 1 (iI x)) wk 2 _) wk 3 _) wk = 11 + 1 from hk)]
    rw [show h_r (s_i (s_i (s_i (s_r h wk 0 (some c)) wk 1 (iI x)) wk 2 (iI (zVal Z (x + 1) - zVal Z x))) wk 3 (iI (kUp x (zK Z)))) wk 0 = some c by simp [h_r_si, h_r_sr, va_up], show h_i (s_i (s_i (s_i (s_r h wk 0 (some c)) wk 1 (iI x)) wk 2 (iI (zVal Z (x + 1) - zVal Z x))) wk 3 (iI (kUp x (zK Z)))) wk 1 = iI x by simp [h_i_si, upd], cv_k C4.1.k, v3, cl_s, pJ_k (show h_k (s_i (s_i (s_i (s_r h wk 0 (some c)) wk 1 (iI x)) wk 2 _) wk 3 _) wk = 11 + 1 from hk)]
  · simp [h_r_sj, h_r_si, h_r_sr, va_up]
  · simp [h_i_sj, h_i_si, upd]
  · simp [h_i_sj, h_i_si, upd]
  · simp [h_i_sj, h_i_si, upd]
  · simp [h_j_sj, vp_updL]
theorem goOn_is (N : Nat) (hk : h_k h wk = 12) (hl : ρ wk ≠ l) (C : CZ ρ l h c Z) {x : Int} (hx : -100000 ≤ x ∧ x ≤ 100000) (W : WK h wk c x Z) : ∃ g, f_Walk_goOn N h wk = some ((), g) ∧ tr ρ h (rg (ρ wk)) ρ g ∧ WK g wk c (x + 1) Z ∧ hm g = hm h := by
  obtain ⟨w1, w2, w3, w4, w5⟩ := W
  have sb := slope_bd C.2 x
  have hlen := C.1.len
  obtain ⟨u1, u2, u3⟩ := kUp_go (x := x) (zK_srt C.2.1.1)
  have sg := slope_go Z x
  have T1 : tr ρ h (rg (ρ wk)) ρ (s_j h wk 4 (lI (zVal Z (x + 1)))) := tr_sj rfl
  have T2 : tr ρ h (rg (ρ wk)) ρ (s_i (s_j h wk 4 (lI (zVal Z (x + 1)))) wk 1 (iI (x + 1))) := T1.trans (tr_si rfl)
  have C2 := C.keep T2 (fun q => hl q.symm)
  obtain ⟨g2, hg2⟩ : ∃ g2, g2 = s_i (s_j h wk 4 (lI (zVal Z (x + 1)))) wk 1 (iI (x + 1)) := ⟨_, rfl⟩
  rw [← hg2] at C2 T2
  have hk2 : h_k g2 wk = 11 + 1 := by rw [hg2]; exact hk
  have r0 : h_r g2 wk 0 = some c := by rw [hg2]; exact w1
  have r1 : h_i g2 wk 1 = iI (x + 1) := by rw [hg2]; simp [h_i_si, upd]
  have r2 : h_i g2 wk 2 = iI (zVal Z (x + 1) - zVal Z x) := by rw [hg2]; simp [h_i_si, h_i_sj, upd, w3]
  have r3 : h_i g2 wk 3 = iI (kUp x (zK Z)) := by rw [hg2]; simp [h_i_si, h_i_sj, upd, w4]
  have r4 : h_j g2 wk 4 = lI (zVal Z (x + 1)) := by rw [hg2]; simp [h_j_si, h_j_sj, vp_updL]
  have start : f_Walk_goOn N h wk = (gI g2 (some wk) 11 3 fun v6 => gR g2 (some wk) 11 0 fun v7 => gI g2 v7 3 0 fun v8 => if v8 ≤ v6 then (f_Walk_goOn_86 N g2) else (gR g2 (some wk) 11 0 fun v9 => gI g2 (some wk) 11 3 fun v10 => cv g2 v9 3 (fun a => f_Curve_placeOf N g2 a v10) fun v11 h12 => gI h12 (some wk) 11 1 fun v13 => if v11 = v13 then (gI h12 (some wk) 11 2 fun v14 => gR h12 (some wk) 11 0 fun v15 => gI h12 (some wk) 11 3 fun v16 => cv h12 v15 3 (fun a => f_Curve_weightOf N h12 a v16) fun v17 h18 => pI h18 (some wk) 11 2 (v14 + v17) fun h19 => gI h19 (some wk) 11 3 fun v20 => pI h19 (some wk) 11 3 (v20 + (1 : Int32)) fun h21 => f_Walk_goOn_86 N h21) else (f_Walk_goOn_86 N h12))) := by
    unfold f_Walk_goOn
    rw [gJ_k (show h_k h wk = 11 + 1 from hk), gI_k (show h_k h wk = 11 + 1 from hk), pJ_k (show h_k h wk = 11 + 1 from hk), w5, w3, iI_l (by omega) (by omega), lI_add, show zVal Z x + (zVal Z (x + 1) - zVal Z x) = zVal Z (x + 1) by omega, gI_k (show h_k (s_j h wk 4 (lI (zVal Z (x + 1)))) wk = 11 + 1 from hk), pI_k (show h_k (s_j h wk 4 (lI (zVal Z (x + 1)))) wk = 11 + 1 from hk), show h_i (s_j h wk 4 (lI (zVal Z (x + 1)))) wk 1 = iI x from w2, show iI x + (1 : Int32) = iI (x + 1) from by rw [show (1 : Int32) = iI 1 from rfl, iI_add], ← hg2]
  rw [start]
  unfold f_Walk_goOn_86
  have stay : kUp (x + 1) (zK Z) = kUp x (zK Z) ∧ wt (x + 1) (zK Z) = 0 → ∃ g, some ((), g2) = some ((), g) ∧ tr ρ h (rg (ρ wk)) ρ g ∧ WK g wk c (x + 1) Z ∧ hm g = hm h := fun ⟨e1, e2⟩ => ⟨g2, rfl, T2, ⟨r0, r1, by rw [r2, sg, e2, Int.add_zero], by rw [r3, e1], r4⟩, by rw [hg2]; rfl⟩
  rw [gI_k hk2, r3, gR_k hk2, r0, gI_k C2.1.k, C2.1.f.1]
  by_cases hlt : kUp x (zK Z) < (zK Z).length
  · have hp := placeOf_in N C2.1 hlt
    have hw := weightOf_in N C2.1 hlt
    have hpr := C2.1.ok.1 _ (List.getElem_mem hlt)
    rw [if_neg (fun z => absurd ((iI_le (by omega) (by omega)).mp z) (by omega)), gR_k hk2, r0, gI_k hk2, r3, cv_k C2.1.k, hp, cl_s, gI_k hk2, r1]
    by_cases he : ((zK Z)[kUp x (zK Z)]).1 = x + 1
    · obtain ⟨e1, e2⟩ := u1 hlt he
      have T3 : tr ρ g2 (rg (ρ wk)) ρ (s_i (s_i g2 wk 2 (iI (zVal Z (x + 1 + 1) - zVal Z (x + 1)))) wk 3 (iI ((kUp x (zK Z) + 1 : Nat) : Int))) := tr.trans (tr_si (R := rg (ρ wk)) rfl) (tr_si (R := rg (ρ wk)) rfl)
      refine ⟨_, ?_, T2.trans T3, ⟨r0, ?_, ?_, ?_, ?_⟩, by rw [hg2]; rfl⟩
      · rw [if_pos (by rw [he]), gI_k hk2, r2, gR_k hk2, r0, gI_k hk2, r3, cv_k C2.1.k, hw, cl_s, pI_k hk2, iI_add, ← e2, ← sg, gI_k (show h_k (s_i g2 wk 2 _) wk = 11 + 1 from hk2), pI_k (show h_k (s_i g2 wk 2 _) wk = 11 + 1 from hk2), show h_i (s_i g2 wk 2 (iI (zVal Z (x + 1 + 1) - zVal Z (x + 1)))) wk 3 = iI (kUp x (zK Z)) by simp [h_i_si, upd, r3], show (1 : Int32) = iI 1 from rfl, iI_add, show (kUp x (zK Z) : Int) + 1 = ((kUp x (zK Z) + 1 : Nat) : Int) by omega]
      · simp [h_i_si, upd, r1]
      · simp [h_i_si, upd]
      · rw [e1]; simp [h_i_si, upd]
      · exact r4
    · rw [if_neg (fun z => he ((iI_eq (by omega) (by omega)).mp z))]
      exact stay (u2 (fun ⟨_, z⟩ => he z))
  · rw [if_pos ((iI_le (by omega) (by omega)).mpr (by omega))]
    exact stay (u2 (fun ⟨z, _⟩ => hlt z))
end
