/-! runs' loop -/
def was (A : Nat → Nat) (G : Nat → Nat → Int32) (p : Nat → Int × Int × Int) (Y : Nat → Nat → Int) (lo : Int) (n : Nat) : Prop := ∀ i, i < n → G (A 10) i = iI (zTurn (zT p Y lo i) 0) ∧ G (A 11) i = iI (zTurn (zT p Y lo i) 1)
/-- what runs leaves, and its answer -/
def rEnd (A : Nat → Nat) (m : Nat) (G0 : Nat → Nat → Int32) (p : Nat → Int × Int × Int) (Y : Nat → Nat → Int) (lo : Int) (n : Nat) (G' : Nat → Nat → Int32) (res : Int32) : Prop :=
  sG A m G0 G' ∧ ((∀ i, i < n → okS p Y lo i) → res = 1 ∧ G' m 12 = -1 ∧ tEq (zi (G' (A 4))) (zT p Y lo n) ∧ zInv (zT p Y lo n) ∧ was A G' p Y lo n) ∧ ∀ j, j < n → (∀ i, i < j → okS p Y lo i) → ¬ okS p Y lo j → res = 0 ∧ G' m 12 = iI j ∧ was A G' p Y lo (j + 1)
theorem runs_loop (N : Nat) (hN : 10004 ≤ N) {A : Nat → Nat} {m : Nat} {h : hS} (M : MO A m h) (G0 : Nat → Nat → Int32) {r k n : Nat} {p : Nat → Int × Int × Int} {Y : Nat → Nat → Int} {lo : Int} (hR : rows A m h G0 r k n p Y lo) :
    ∀ (q fu i : Nat) (G : Nat → Nat → Int32), i + q = n → q < fu → sG A m G0 G → G m 12 = -1 → tEq (zi (G (A 4))) (zT p Y lo i) → zInv (zT p Y lo i) → was A G p Y lo i → (∀ i', i' < i → okS p Y lo i') → ∃ G' res, f_M_runs_21 N fu (w_i h G) m r (iI k) (iI i) = some (res, w_i h G') ∧ rEnd A m G0 p Y lo n G' res := by
  have m4 : (4, 50, 10003) ∈ mrows := by decide
  have m6 : (6, 50, 10003) ∈ mrows := by decide
  have m10 : (10, 50, 40) ∈ mrows := by decide
  have m11 : (11, 50, 40) ∈ mrows := by decide
  have n4m : A 4 ≠ m := M.ne m4 (by decide)
  have n6m : A 6 ≠ m := M.ne m6 (by decide)
  have n10m : A 10 ≠ m := M.ne m10 (by decide)
  have n11m : A 11 ≠ m := M.ne m11 (by decide)
  have n410 : A 4 ≠ A 10 := M.nn m4 m10 (by decide)
  have n411 : A 4 ≠ A 11 := M.nn m4 m11 (by decide)
  have n610 : A 6 ≠ A 10 := M.nn m6 m10 (by decide)
  have n611 : A 6 ≠ A 11 := M.nn m6 m11 (by decide)
  have n1011 : A 10 ≠ A 11 := M.nn m10 m11 (by decide)
  obtain ⟨hr, hn, hk, hnR, ⟨hlo, hlo2⟩, os, hos, os1, os2, hst⟩ := hR
  have r4 : r ≠ A 4 := ro_ne hr (M.ro m4) (by decide)
  have r6 : r ≠ A 6 := ro_ne hr (M.ro m6) (by decide)
  have r10 : r ≠ A 10 := ro_ne hr (M.ro m10) (by decide)
  have r11 : r ≠ A 11 := ro_ne hr (M.ro m11) (by decide)
  have rm : r ≠ m := fun q => by have e := hr.1; rw [q, M.1] at e; exact absurd e (by decide)
  intro q
  induction q with
  | zero =>
    intro fu i G hi hnn hs h12 hT hI hw hok
    obtain ⟨fu, rfl⟩ : ∃ q, fu = q + 1 := ⟨fu - 1, by omega⟩
    have hin : i = n := by omega
    subst hin
    refine ⟨G, 1, ?_, hs, fun _ => ⟨rfl, h12, hT, hI, hw⟩, fun j hj _ hb => absurd (hok j hj) hb⟩
    unfold f_M_runs_21
    rw [aI_iI (h := w_i h G) (a := r) (n := 644) hr (by omega) (by omega) (by omega), h_i_wi, hs.1 r r4 r6 r10 r11 rm, show ((k : Int)).toNat = k by omega, hnR, if_pos ((iI_le (by omega) (by omega)).mpr (by omega))]
    unfold f_M_runs_144 f_M_runs_157 bz
    rw [gI_at (M.wi G), h_i_wi, if_pos h12, if_pos (Or.inr rfl)]
  | succ q ih =>
    intro fu i G hi hnn hs h12 hT hI hw hok
    obtain ⟨fu, rfl⟩ : ∃ q, fu = q + 1 := ⟨fu - 1, by omega⟩
    have hI' := hT.symm.inv hI
    obtain ⟨G2, hG2⟩ : ∃ G2, G2 = va_up (va_up G (A 10) (upd (G (A 10)) i (iI (zTurn (zT p Y lo i) 0)))) (A 11) (upd (va_up G (A 10) (upd (G (A 10)) i (iI (zTurn (zT p Y lo i) 0))) (A 11)) i (iI (zTurn (zT p Y lo i) 1))) := ⟨_, rfl⟩
    have g2o : ∀ x, x ≠ A 10 → x ≠ A 11 → G2 x = G x := fun x h1 h2 => by rw [hG2]; simp [va_up, h1, h2]
    have g2m : G2 m = G m := g2o m (Ne.symm n10m) (Ne.symm n11m)
    have g24 : G2 (A 4) = G (A 4) := g2o _ n410 n411
    have g2r : G2 r = G0 r := (g2o r r10 r11).trans (hs.1 r r4 r6 r10 r11 rm)
    have g2s : sG A m G0 G2 := ⟨fun x h1 h2 h3 h4 h5 => (g2o x h3 h4).trans (hs.1 x h1 h2 h3 h4 h5), fun x h1 h2 => by rw [g2m]; exact hs.2 x h1 h2⟩
    have g2w : was A G2 p Y lo (i + 1) := fun j hj => by
      rw [hG2]
      by_cases c : j = i
      · subst c; simp [va_up, upd, n1011]
      · have := hw j (by omega)
        simp [va_up, upd, n1011, Ne.symm n1011, c, this.1, this.2]
    have hcall : f_M_runs_21 N (fu + 1) (w_i h G) m r (iI k) (iI i) = (if iI (i : Int) = G2 m 13 then f_M_runs_138 N (f_M_runs_21 N fu) (w_i h G2) m r (iI k) (iI i) else aI (w_i h G2) 50 (some r) (iI ((k : Int) + 1 + 4 * i)) fun v17 => aI (w_i h G2) 50 (some r) (iI ((k : Int) + 1 + 4 * i) + (1 : Int32)) fun v18 => gI (w_i h G2) (some m) 0 14 fun v19 => if iI (i : Int) = v19 then (gI (w_i h G2) (some m) 0 15 fun v21 => f_M_runs_120 N (f_M_runs_21 N fu) (w_i h G2) m r (iI k) (iI i) (iI ((k : Int) + 1 + 4 * i)) (some m) v17 v18 v21) else (aI (w_i h G2) 50 (some r) (iI ((k : Int) + 1 + 4 * i) + (2 : Int32)) fun v20 => f_M_runs_120 N (f_M_runs_21 N fu) (w_i h G2) m r (iI k) (iI i) (iI ((k : Int) + 1 + 4 * i)) (some m) v17 v18 v20)) := by
      rw [f_M_runs_21]
      simp only []
      rw [aI_iI (h := w_i h G) (a := r) (n := 644) hr (by omega) (by omega) (by omega), h_i_wi, hs.1 r r4 r6 r10 r11 rm, show ((k : Int)).toNat = k by omega, hnR, if_neg (fun q => absurd ((iI_le (by omega) (by omega)).mp q) (by omega)), gI_at (M.wi G), h_i_wi, if_pos h12, gR_at (M.wi G) m10, gR_at (M.wi G) m4]
      simp only [nn]
      rw [flatFrom_is N (by omega) ((M.wi G).ro m4) (by rw [h_i_wi]; exact hI'.sb), h_i_wi, zTurn_congr hT]
      simp only [cl]
      rw [uI_iI ((M.wi G).ro m10) (by omega) (by omega) (by omega), s_i_wi, gR_at (M.wi _) m11, gR_at (M.wi _) m4, show ((i : Int)).toNat = i by omega]
      simp only []
      have e4 : va_up G (A 10) (upd (G (A 10)) i (iI (zTurn (zT p Y lo i) 0))) (A 4) = G (A 4) := by simp [va_up, n410]
      rw [flatTo_is N (by omega) ((M.wi _).ro m4) (by rw [h_i_wi, e4]; exact hI'.sb), h_i_wi, e4, zTurn_congr hT]
      simp only []
      rw [uI_iI ((M.wi _).ro m11) (by omega) (by omega) (by omega), s_i_wi, show ((i : Int)).toNat = i by omega, ← hG2, gI_at (M.wi _), h_i_wi]
      simp only [bn]
      rw [show (iI k + (1 : Int32)) + (4 : Int32) * iI i = iI ((k : Int) + 1 + 4 * i) by rw [show (1 : Int32) = iI 1 from rfl, show (4 : Int32) = iI 4 from rfl, iI_add, iI_mul, iI_add]]
    rw [hcall]
    have e13 : G2 m 13 = iI lo := by rw [g2s.2 13 (by omega) (by omega)]; exact hlo
    rw [e13]
    have next : ∀ H, f_M_runs_138 N (f_M_runs_21 N fu) (w_i h H) m r (iI k) (iI i) = f_M_runs_21 N fu (w_i h H) m r (iI k) (iI ((i + 1 : Nat) : Int)) := fun H => by
      unfold f_M_runs_138
      simp only [bn]
      rw [show (1 : Int32) = iI 1 from rfl, iI_add, show (i : Int) + 1 = ((i + 1 : Nat) : Int) by omega]
    by_cases hl : (i : Int) = lo
    · rw [if_pos (by rw [hl]), next]
      exact ih fu (i + 1) G2 (by omega) (by omega) g2s (by rw [g2m]; exact h12) (by rw [g24, zT_skip hl]; exact hT) (by rw [zT_skip hl]; exact hI) g2w (fun j hj => by
        by_cases c : j = i
        · rw [c]; exact Or.inl hl
        · exact hok j (by omega))
    · obtain ⟨p1, p2, p3, pk, t, pt, pY⟩ := hst i (by omega) hl
      have e14 : G2 m 14 = iI os := by rw [g2s.2 14 (by omega) (by omega)]; exact hos
      have e15 : G2 m 15 = G0 m 15 := g2s.2 15 (by omega) (by omega)
      have kk : ∀ d : Nat, d ≤ 3 → ((k : Int) + 1 + 4 * i + d).toNat = k + 1 + 4 * i + d := fun d _ => by omega
      rw [if_neg (fun q => hl ((iI_eq (by omega) (by omega)).mp q)), aI_iI (h := w_i h G2) (a := r) (n := 644) hr (by omega) (by omega) (by omega), show (1 : Int32) = iI 1 from rfl, iI_add, aI_iI (h := w_i h G2) (a := r) (n := 644) hr (by omega) (by omega) (by omega), gI_at (M.wi _), gI_at (M.wi _), h_i_wi, g2r, e14, e15, show (2 : Int32) = iI 2 from rfl, iI_add, aI_iI (h := w_i h G2) (a := r) (n := 644) hr (by omega) (by omega) (by omega), h_i_wi, g2r, show ((k : Int) + 1 + 4 * i).toNat = k + 1 + 4 * i by omega, show ((k : Int) + 1 + 4 * i + 1).toNat = k + 1 + 4 * i + 1 by omega, show ((k : Int) + 1 + 4 * i + 2).toNat = k + 1 + 4 * i + 2 by omega, p1, p2]
      have hb : (if iI (i : Int) = iI os then f_M_runs_120 N (f_M_runs_21 N fu) (w_i h G2) m r (iI k) (iI i) (iI ((k : Int) + 1 + 4 * i)) (some m) (iI (p i).1) (iI (p i).2.1) (G0 m 15) else f_M_runs_120 N (f_M_runs_21 N fu) (w_i h G2) m r (iI k) (iI i) (iI ((k : Int) + 1 + 4 * i)) (some m) (iI (p i).1) (iI (p i).2.1) (G0 r (k + 1 + 4 * i + 2))) = f_M_runs_120 N (f_M_runs_21 N fu) (w_i h G2) m r (iI k) (iI i) (iI ((k : Int) + 1 + 4 * i)) (some m) (iI (p i).1) (iI (p i).2.1) (iI (p i).2.2) := by
        by_cases c : (i : Int) = os
        · rw [if_pos c] at p3
          rw [if_pos (by rw [c]), p3]
        · rw [if_neg c] at p3
          rw [if_neg (fun q => c ((iI_eq (by omega) (by omega)).mp q)), p3]
      rw [hb]
      unfold f_M_runs_120
      rw [show (3 : Int32) = iI 3 from rfl, iI_add, aI_iI (h := w_i h G2) (a := r) (n := 644) hr (by omega) (by omega) (by omega), h_i_wi, g2r, show ((k : Int) + 1 + 4 * i + 3).toNat = k + 1 + 4 * i + 3 by omega, pt, cv_at (M.wi _)]
      have hy : (p i).1 = 8 → onT A m h G2 t (Y i) := fun q8 => by
        obtain ⟨c, c1, c2, c3, ⟨c4, c45, c5⟩, c6, c7⟩ := pY q8
        have c10 : c ≠ A 10 := ro_ne c3 (M.ro m10) (by decide)
        have c11 : c ≠ A 11 := ro_ne c3 (M.ro m11) (by decide)
        have cm : c ≠ m := fun q => by have e := c3.1; rw [q, M.1] at e; exact absurd e (by decide)
        exact ⟨c, c1, c2, c3, c4, cm, by rw [g2s.1 c (Ne.symm c4) (Ne.symm c5) c10 c11 cm]; exact c6, c7⟩
      obtain ⟨G3, g31, g32, g33, g34⟩ := goes_is N hN M G2 (Z := zT p Y lo i) (Y := Y i) (by rw [g24]; exact hT) hI pk hy
      rw [g31]
      simp only [cl]
      have g3s : sG A m G0 G3 := ⟨fun x h1 h2 h3 h4 h5 => (g32 x h1 h2 h5).trans (g2s.1 x h1 h2 h3 h4 h5), fun x h1 h2 => (g33 x h1).trans (g2s.2 x h1 h2)⟩
      have g3w : was A G3 p Y lo (i + 1) := fun j hj => by
        rw [g32 (A 10) (Ne.symm n410) (Ne.symm n610) n10m, g32 (A 11) (Ne.symm n411) (Ne.symm n611) n11m]
        exact g2w j hj
      by_cases ok : zBey (zT p Y lo i) (p i).1 (p i).2.1 (p i).2.2 = false ∧ zOk (zStep (zT p Y lo i) (Y i) (p i).1 (p i).2.1 (p i).2.2)
      · rw [if_pos ok, if_neg (show ¬ (1 : Int32) = 0 by decide), next]
        have sm := zStep_sm hI pk (fun q8 => by obtain ⟨c, _, _, _, _, _, c7⟩ := pY q8; exact c7) ok.1
        exact ih fu (i + 1) G3 (by omega) (by omega) g3s (by rw [g33 12 (by omega), g2m]; exact h12) (by rw [zT_go hl]; exact g34) (by rw [zT_go hl]; exact sm.inv ok.2) g3w (fun j hj => by
          by_cases c : j = i
          · rw [c]; exact Or.inr ⟨ok.1, by rw [zT_go hl]; exact ok.2⟩
          · exact hok j (by omega))
      · have bad : ¬ okS p Y lo i := fun q => by
          rcases q with q | q
          · exact hl q
          · rw [zT_go hl] at q; exact ok q
        rw [if_neg ok, if_pos rfl, pI_at (M.wi _), s_i_wi, next]
        have h12' : va_up G3 m (upd (G3 m) 12 (iI i)) m 12 = iI i := by simp [va_up, upd]
        rw [runs_stop N M _ hr (by omega) (by omega) (by rw [h12']; exact fun q => absurd ((iI_eq (b := -1) (by omega) (by omega)).mp q) (by omega))]
        refine ⟨_, _, rfl, ⟨fun x h1 h2 h3 h4 h5 => ?_, fun x h1 h2 => ?_⟩, fun a => absurd (a i (by omega)) bad, fun j hj ha hb2 => ?_⟩
        · rw [show va_up G3 m (upd (G3 m) 12 (iI i)) x = G3 x by simp [va_up, h5]]; exact g3s.1 x h1 h2 h3 h4 h5
        · rw [show va_up G3 m (upd (G3 m) 12 (iI i)) m x = G3 m x by simp [va_up, upd, h2]]; exact g3s.2 x h1 h2
        · have ji : j = i := by
            by_cases c : j < i
            · exact absurd (hok j c) hb2
            · by_cases d : i < j
              · exact absurd (ha i d) bad
              · omega
          subst ji
          refine ⟨rfl, h12', fun x hx => ?_⟩
          rw [show va_up G3 m (upd (G3 m) 12 (iI j)) (A 10) = G3 (A 10) by simp [va_up, n10m], show va_up G3 m (upd (G3 m) 12 (iI j)) (A 11) = G3 (A 11) by simp [va_up, n11m]]
          exact g3w x hx
