/-! goes' answer, kind by kind -/
/-- what goes leaves: store G behind, table Z behind, verdict -/
def gRes (A : Nat → Nat) (m : Nat) (h : hS) (G : Nat → Nat → Int32) (Z : Nat → Int) (w : Bool) (r : Option (Int32 × hS)) : Prop := ∃ G', r = some (if w = false ∧ zOk Z then 1 else 0, w_i h G') ∧ (∀ q, q ≠ A 4 → q ≠ A 6 → q ≠ m → G' q = G q) ∧ (∀ k, k ≠ 9 → G' m k = G m k) ∧ ∀ k, k < 10003 → zi (G' (A 4)) k = Z k
/-- the store with the flag down -/
def fl (m : Nat) (G : Nat → Nat → Int32) : Nat → Nat → Int32 := va_up G m (upd (G m) 9 0)
theorem fl_o {m : Nat} {G : Nat → Nat → Int32} {q : Nat} (hq : q ≠ m) : fl m G q = G q := by simp [fl, va_up, hq]
theorem fl_m {m : Nat} {G : Nat → Nat → Int32} {k : Nat} : fl m G m k = if k = 9 then 0 else G m k := by simp [fl, va_up, upd]
theorem fl_4 {A : Nat → Nat} {m : Nat} {h : hS} (M : MO A m h) (G : Nat → Nat → Int32) : fl m G (A 4) = G (A 4) := fl_o (M.ne (i := 4) (k := 50) (n := 10003) (by decide) (by decide))
theorem goes_lean (N : Nat) (hN : 10004 ≤ N) {A : Nat → Nat} {m : Nat} {h : hS} (M : MO A m h) (G : Nat → Nat → Int32) (hI : zInv (zi (G (A 4)))) {a b c : Int} (ha : -500 ≤ a ∧ a ≤ 500) (hb : 0 ≤ b ∧ b ≤ 99) (hc : 0 ≤ c ∧ c ≤ 99) : gRes A m h G (zLean (zi (G (A 4))) a b c) false (cv (w_i h (fl m G)) (some m) 0 (fun q => f_M_leans N (w_i h (fl m G)) q (iI a) (iI b) (iI c)) fun _ h3 => f_M_goes_147 N h3 m) := by
  have r := hI.rng
  have r0 := hI.1.2.1
  have w := hI.wt (k := (5002 + a).toNat) (by omega) (by omega)
  have n4m : A 4 ≠ m := M.ne (i := 4) (k := 50) (n := 10003) (by decide) (by decide)
  have e4 := fl_4 M G
  obtain ⟨G', g1, g2, g3⟩ := leans_is N M (fl m G) ha hb hc (by rw [e4]; omega) (by rw [e4]; omega) (by rw [e4]; omega)
  rw [cv_at (M.wi _), g1]
  simp only [cl]
  rw [e4] at g3
  refine ⟨G', goes_tail N (by omega) M G' _ false (fun k _ => g3 k) ?_ (fun _ => zLean_sm hI ha hb hc), fun q q4 q6 qm => ?_, fun k k9 => ?_, fun k _ => g3 k⟩
  · rw [g2 m (Ne.symm n4m), fl_m]; rfl
  · rw [g2 q q4, fl_o qm]
  · rw [g2 m (Ne.symm n4m), fl_m, if_neg k9]
theorem goes_drift (N : Nat) (hN : 10004 ≤ N) {A : Nat → Nat} {m : Nat} {h : hS} (M : MO A m h) (G : Nat → Nat → Int32) (hI : zInv (zi (G (A 4)))) {a : Int} (ha : -500 ≤ a ∧ a ≤ 500) : gRes A m h G (zDrift (zi (G (A 4))) a) (zWide (dlist (zi (G (A 4))) a 10001 0)) (cv (w_i h (fl m G)) (some m) 0 (fun q => f_M_drifts N (w_i h (fl m G)) q (iI a)) fun _ h3 => f_M_goes_147 N h3 m) := by
  have r := hI.rng
  have v := hI.val (x := -5000 - a) (by omega) (by omega)
  have e4 := fl_4 M G
  have d := drifts_is N hN M (fl m G) ha
  rw [e4] at d
  obtain ⟨G', g1, g2, g3, g4⟩ := d (fun k k1 k2 => (hI.wt k1 k2).1) (by have := hI.2.1.1; unfold zWts at this; omega) (by omega)
  rw [cv_at (M.wi _), g1]
  simp only [cl]
  refine ⟨G', goes_tail N (by omega) M G' _ _ g4 ?_ (fun w => zDrift_sm hI w), fun q q4 q6 qm => ?_, fun k k9 => ?_, g4⟩
  · rw [g3 9, fl_m, if_pos rfl]
    by_cases w : zWide (dlist (zi (G (A 4))) a 10001 0) = true
    · rw [if_pos ⟨rfl, w⟩, if_pos w]
    · rw [if_neg (fun q => w q.2), if_neg w]
  · rw [g2 q q4 q6 qm, fl_o qm]
  · rw [g3 k, if_neg (fun q => k9 q.1), fl_m, if_neg k9]
theorem goes_parts (N : Nat) (hN : 10004 ≤ N) {A : Nat → Nat} {m : Nat} {h : hS} (M : MO A m h) (G : Nat → Nat → Int32) (hI : zInv (zi (G (A 4)))) {dn up : Int} (hd : 0 ≤ dn ∧ dn ≤ 1000) (hu : 0 ≤ up ∧ up ≤ 1000) (fa ri : Bool) (L : List (Int × Int)) (hL : L = plist (zi (G (A 4))) dn up fa ri 10001 0) : gRes A m h G (zParts (zi (G (A 4))) L dn fa) (zWide L) (cv (w_i h (fl m G)) (some m) 0 (fun q => f_M_parts N (w_i h (fl m G)) q (iI dn) (iI up) (bI fa) (bI ri)) fun _ h3 => f_M_goes_147 N h3 m) := by
  have e4 := fl_4 M G
  have d := parts_is N hN M (fl m G) hd hu fa ri L
  rw [e4] at d
  have sm : zWide L = false → zSm (zParts (zi (G (A 4))) L dn fa) := fun w => by
    rw [hL] at w ⊢
    exact zParts_sm hI hd hu.1 w
  obtain ⟨G', g1, g2, g3, g4⟩ := d hL hI.sb (fun k k1 k2 => by have := hI.wt k1 k2; omega) (by have := hI.2.1.1; unfold zWts at this; omega) (by
    rw [zPv_is hI.1 hd]
    have a := (zFall_le hI (x := -5000 + dn) (by omega) (by omega)).1
    have b := zFall_nn hI.1.1 (-5000 + dn)
    have c := hI.2.1.2
    have e := hI.2.2
    cases fa <;> simp <;> omega)
  clear hL d
  rw [cv_at (M.wi _), g1]
  simp only [cl]
  refine ⟨G', goes_tail N (by omega) M G' _ _ g4 ?_ sm, fun q q4 q6 qm => ?_, fun k k9 => ?_, g4⟩
  · rw [g3 9, fl_m, if_pos rfl]
    by_cases w : zWide L = true
    · rw [if_pos ⟨rfl, w⟩, if_pos w]
    · rw [if_neg (fun q => w q.2), if_neg w]
  · rw [g2 q q4 q6 qm, fl_o qm]
  · rw [g3 k, if_neg (fun q => k9 q.1), fl_m, if_neg k9]
theorem goes_plus (N : Nat) (hN : 10004 ≤ N) {A : Nat → Nat} {m : Nat} {h : hS} (M : MO A m h) (G : Nat → Nat → Int32) (hI : zInv (zi (G (A 4)))) {a : Int} (ha : 0 ≤ a ∧ a ≤ 999) : gRes A m h G (zPlus (zi (G (A 4))) a) false (gR (w_i h (fl m G)) (some m) 0 4 fun v16 => aI (w_i h (fl m G)) 50 v16 (1 : Int32) fun v17 => uI (w_i h (fl m G)) v16 (1 : Int32) (v17 + iI a) fun h18 => f_M_goes_147 N h18 m) := by
  have m4 : (4, 50, 10003) ∈ mrows := by decide
  have n4m : A 4 ≠ m := M.ne m4 (by decide)
  have r := hI.rng
  have e4 := fl_4 M G
  have ee : (G (A 4) 1 + iI a).toInt = zi (G (A 4)) 1 + a := zi_iI (by
    show G (A 4) 1 + iI a = iI ((G (A 4) 1).toInt + a)
    rw [← iI_add, toInt_iI]) (by omega) (by omega)
  rw [gR_at (M.wi _) m4, show aI (w_i h (fl m G)) 50 (some (A 4)) (1 : Int32) = aI (w_i h (fl m G)) 50 (some (A 4)) (iI 1) from rfl, aI_iI ((M.wi _).ro m4) (by omega) (by omega) (by omega), uI_1 ((M.wi _).ro m4) (by omega) (by omega), s_i_wi, h_i_wi, e4]
  have row : ∀ k, zi (va_up (fl m G) (A 4) (upd (G (A 4)) 1 (G (A 4) (1 : Int).toNat + iI a)) (A 4)) k = zPlus (zi (G (A 4))) a k := fun k => by
    unfold zPlus
    by_cases k1 : k = 1
    · subst k1
      rw [if_pos rfl, ← ee]
      simp [zi, va_up, upd]
    · rw [if_neg k1]
      simp [zi, va_up, upd, k1]
  refine ⟨_, goes_tail N (by omega) M _ _ false (fun k _ => row k) ?_ (fun _ => zPlus_sm hI ha), fun q q4 q6 qm => ?_, fun k k9 => ?_, fun k _ => row k⟩
  · rw [show va_up (fl m G) (A 4) (upd (G (A 4)) 1 (G (A 4) (1 : Int).toNat + iI a)) m = fl m G m by simp [va_up, Ne.symm n4m], fl_m]; rfl
  · rw [show va_up (fl m G) (A 4) (upd (G (A 4)) 1 (G (A 4) (1 : Int).toNat + iI a)) q = fl m G q by simp [va_up, q4], fl_o qm]
  · rw [show va_up (fl m G) (A 4) (upd (G (A 4)) 1 (G (A 4) (1 : Int).toNat + iI a)) m = fl m G m by simp [va_up, Ne.symm n4m], fl_m, if_neg k9]
theorem goes_and (N : Nat) (hN : 10004 ≤ N) {A : Nat → Nat} {m : Nat} {h : hS} (M : MO A m h) (G : Nat → Nat → Int32) (hI : zInv (zi (G (A 4)))) {t : Int} (ht : 0 ≤ t ∧ t < 1000) {c : Nat} (hc : h_r h (A 7) t.toNat = some c) (hr : ro h c 10003) (c4 : A 4 ≠ c) (cm : c ≠ m) (hY : zInv (zi (G c))) : gRes A m h G (zAnd (zi (G (A 4))) (zi (G c))) false (gR (w_i h (fl m G)) (some m) 0 7 fun v19 => aR (w_i h (fl m G)) 60 v19 (iI t) fun v20 => nn v20 fun q21 => cv (w_i h (fl m G)) (some m) 0 (fun a => f_M_putsOn N (w_i h (fl m G)) a q21) fun _ h23 => f_M_goes_147 N h23 m) := by
  have m4 : (4, 50, 10003) ∈ mrows := by decide
  have m7 : (7, 60, 1000) ∈ mrows := by decide
  have n4m : A 4 ≠ m := M.ne m4 (by decide)
  have e4 := fl_4 M G
  rw [gR_at (M.wi _) m7, aR_at (M.wi _) m7 ht.1 ht.2 (by omega), show h_r (w_i h (fl m G)) (A 7) t.toNat = some c from hc]
  simp only [nn]
  rw [cv_at (M.wi _), putsOn_is N hN M (fl m G) hr c4, e4, fl_o cm]
  simp only [cl]
  have row : ∀ k, k < 10003 → zi (va_up (fl m G) (A 4) (addU (G (A 4)) (G c) 10003) (A 4)) k = zAnd (zi (G (A 4))) (zi (G c)) k := fun k hk => by
    have r1 := hI.rng
    have r2 := hY.rng
    have b1 := hI.1.2.1
    have b2 := hY.1.2.1
    have f1 : -1000000000 ≤ zi (G (A 4)) k ∧ zi (G (A 4)) k ≤ 1000000000 := by
      by_cases k0 : k = 0
      · subst k0; omega
      · by_cases k1 : k = 1
        · subst k1; omega
        · have := hI.wt (k := k) (by omega) hk; omega
    have f2 : -1000000000 ≤ zi (G c) k ∧ zi (G c) k ≤ 1000000000 := by
      by_cases k0 : k = 0
      · subst k0; omega
      · by_cases k1 : k = 1
        · subst k1; omega
        · have := hY.wt (k := k) (by omega) hk; omega
    have ee : (G (A 4) k + G c k).toInt = zi (G (A 4)) k + zi (G c) k := zi_iI (by
      show G (A 4) k + G c k = iI ((G (A 4) k).toInt + (G c k).toInt)
      rw [← iI_add, toInt_iI, toInt_iI]) (by omega) (by omega)
    show (va_up (fl m G) (A 4) (addU (G (A 4)) (G c) 10003) (A 4) k).toInt = zi (G (A 4)) k + zi (G c) k
    rw [← ee]
    simp [va_up, addU, upto, hk]
  refine ⟨_, goes_tail N (by omega) M _ _ false row ?_ (fun _ => zAnd_sm hI hY), fun q q4 q6 qm => ?_, fun k k9 => ?_, row⟩
  · rw [show va_up (fl m G) (A 4) (addU (G (A 4)) (G c) 10003) m = fl m G m by simp [va_up, Ne.symm n4m], fl_m]; rfl
  · rw [show va_up (fl m G) (A 4) (addU (G (A 4)) (G c) 10003) q = fl m G q by simp [va_up, q4], fl_o qm]
  · rw [show va_up (fl m G) (A 4) (addU (G (A 4)) (G c) 10003) m = fl m G m by simp [va_up, Ne.symm n4m], fl_m, if_neg k9]
