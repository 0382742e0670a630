/-! parts' answer, putsOn, clear -/
theorem vu_self (G : Nat → Nat → Int32) (a : Nat) : va_up G a (G a) = G := by
  funext q k
  by_cases h : q = a
  · subst h; simp [va_up]
  · simp [va_up, h]
/-- the table behind parts -/
def zParts (Z : Nat → Int) (L : List (Int × Int)) (dn : Int) (fa : Bool) (k : Nat) : Int := if k = 0 then (if fa then Z 0 else 0) else if k = 1 then zPv Z dn fa (zLeast Z) (zTurn Z 0) else zCo L k
theorem zPv_congr {Z Y : Nat → Int} (h : ∀ k, k < 10003 → Z k = Y k) (dn : Int) (fa : Bool) (a b : Int) : zPv Z dn fa a b = zPv Y dn fa a b := by
  unfold zPv
  rw [zVal_congr h]
theorem zCo_lt : ∀ (L : List (Int × Int)) (k : Nat), k < 2 → zCo L k = 0 := by
  intro L
  induction L with
  | nil => intro k _; rfl
  | cons e L ih =>
    intro k hk
    rw [zCo, ih k hk, if_neg (by omega)]
    rfl
/-- the row of a store behind pG -/
theorem pG_row {A : Nat → Nat} {m : Nat} (n4m : A 4 ≠ m) {L : List (Int × Int)} {v : Int} {G : Nat → Nat → Int32} (hLn : ∀ e ∈ L, 0 ≤ e.2) (hLs : zSum L ≤ 1000000) (hz : ∀ j, 2 ≤ j → j < 10003 → zi (G (A 4)) j = 0) (hv : -2000000000 ≤ v ∧ v ≤ 2000000000) (k : Nat) (hk : k < 10003) : zi (pG A m L v G (A 4)) k = if k = 0 then zi (G (A 4)) 0 else if k = 1 then v else zCo L k := by
  have hr := aGs_row n4m L G hLn hLs (fun j h1 h2 => by rw [hz j h1 h2]; omega) k
  unfold pG
  rw [show va_up (aGs A m L G) (A 4) (upd (aGs A m L G (A 4)) 1 (iI v)) (A 4) = upd (aGs A m L G (A 4)) 1 (iI v) by simp [va_up]]
  by_cases k1 : k = 1
  · rw [if_neg (by omega), if_pos k1]
    exact zi_iI (by rw [k1]; simp [upd]) (by omega) (by omega)
  · rw [show zi (upd (aGs A m L G (A 4)) 1 (iI v)) k = zi (aGs A m L G (A 4)) k by simp [zi, upd, k1], hr]
    by_cases k0 : k = 0
    · subst k0
      rw [zCo_lt _ _ (by omega), if_pos rfl]
      omega
    · rw [if_neg k0, if_neg k1, hz k (by omega) hk]
      omega
theorem pG_o {A : Nat → Nat} {m : Nat} {L : List (Int × Int)} {v : Int} {G : Nat → Nat → Int32} {q : Nat} (h4 : q ≠ A 4) (hm : q ≠ m) : pG A m L v G q = G q := by
  unfold pG
  rw [show va_up (aGs A m L G) (A 4) (upd (aGs A m L G (A 4)) 1 (iI v)) q = aGs A m L G q by simp [va_up, h4], aGs_o h4 hm]
theorem pG_m {A : Nat → Nat} {m : Nat} (n4m : A 4 ≠ m) {L : List (Int × Int)} {v : Int} {G : Nat → Nat → Int32} (k : Nat) : pG A m L v G m k = if k = 9 ∧ zWide L = true then 1 else G m k := by
  unfold pG
  rw [show va_up (aGs A m L G) (A 4) (upd (aGs A m L G (A 4)) 1 (iI v)) m = aGs A m L G m by simp [va_up, Ne.symm n4m], aGs_m n4m]
theorem parts_is (N : Nat) (hN : 10004 ≤ N) {A : Nat → Nat} {m : Nat} {h : hS} (M : MO A m h) (G : Nat → Nat → Int32) {dn up : Int} (hd : 0 ≤ dn ∧ dn ≤ 1000) (hu : 0 ≤ up ∧ up ≤ 1000) (fa ri : Bool) (L : List (Int × Int)) (hL : L = plist (zi (G (A 4))) dn up fa ri 10001 0) (hb : sb (zi (G (A 4)))) (hw : ∀ k, 2 ≤ k → k < 10003 → 0 ≤ zi (G (A 4)) k ∧ zi (G (A 4)) k ≤ 1000000) (hs : zSum (dlist (zi (G (A 4))) 0 10001 0) ≤ 1000000) (hv : -2000000000 ≤ zPv (zi (G (A 4))) dn fa (zLeast (zi (G (A 4)))) (zTurn (zi (G (A 4))) 0) ∧ zPv (zi (G (A 4))) dn fa (zLeast (zi (G (A 4)))) (zTurn (zi (G (A 4))) 0) ≤ 2000000000) :
    ∃ G', f_M_parts N (w_i h G) m (iI dn) (iI up) (bI fa) (bI ri) = some ((), w_i h G') ∧ (∀ q, q ≠ A 4 → q ≠ A 6 → q ≠ m → G' q = G q) ∧ (∀ k, G' m k = if k = 9 ∧ zWide L = true then 1 else G m k) ∧ ∀ k, k < 10003 → zi (G' (A 4)) k = zParts (zi (G (A 4))) L dn fa k := by
  have m4 : (4, 50, 10003) ∈ mrows := by decide
  have m6 : (6, 50, 10003) ∈ mrows := by decide
  have n46 : A 4 ≠ A 6 := M.nn m4 m6 (by decide)
  have n4m : A 4 ≠ m := M.ne m4 (by decide)
  have n6m : A 6 ≠ m := M.ne m6 (by decide)
  obtain ⟨O, hO⟩ : ∃ O, O = upto (G (A 6)) (G (A 4)) 10003 := ⟨_, rfl⟩
  have hOk : ∀ k, k < 10003 → zi O k = zi (G (A 4)) k := fun k hk => by rw [hO]; simp [zi, upto, hk]
  have hOk' : ∀ k, k < 10003 → zi (G (A 4)) k = zi O k := fun k hk => (hOk k hk).symm
  unfold f_M_parts
  rw [gR_at (M.wi G) m6, gR_at (M.wi G) m4]
  simp only [nn]
  rw [copyTo_is N (by omega) ((M.wi G).ro m6) ((M.wi G).ro m4) (Ne.symm n46) (by omega), s_w_wi, h_i_wi, ← hO]
  simp only [cl]
  have e6 : va_up G (A 6) O (A 6) = O := by simp [va_up]
  rw [gR_at (M.wi _) m6]
  simp only [nn]
  rw [leastOf_is N (by omega) ((M.wi _).ro m6) (by rw [h_i_wi, e6]; exact sb_congr hOk' hb), h_i_wi, e6]
  simp only []
  rw [gR_at (M.wi _) m6]
  simp only []
  rw [flatFrom_is N (by omega) ((M.wi _).ro m6) (by rw [h_i_wi, e6]; exact sb_congr hOk' hb), h_i_wi, e6]
  simp only []
  have hp := parts_1 N (by omega) M hd hu fa ri (zLeast (zi O)) (zTurn (zi O) 0) (zTurn_rng _ _) O (G (A 4)) (sb_congr hOk' hb) (fun k h1 h2 => by rw [hOk k h2]; exact hw k h1 h2) (va_up G (A 6) O) e6 10001 N 0 (by omega) (by omega)
  rw [zer_0, show va_up (va_up G (A 6) O) (A 4) (G (A 4)) = va_up G (A 6) O by
    have := vu_self (va_up G (A 6) O) (A 4)
    rwa [show va_up G (A 6) O (A 4) = G (A 4) by simp [va_up, n46]] at this, show iI ((0 : Nat) : Int) = (0 : Int32) from rfl] at hp
  rw [plist_congr hOk 10001 0 (by omega), ← hL] at hp
  have hLn : ∀ e ∈ L, 0 ≤ e.2 := by rw [hL]; exact plist_nonneg (fun k h1 h2 => (hw k h1 h2).1) 10001 0 (by omega)
  have hLs : zSum L ≤ 1000000 := by rw [hL]; exact Int.le_trans (plist_sum (fun k h1 h2 => (hw k h1 h2).1) 10001 0 (by omega)) hs
  clear hL hs
  have ev : zPv (zi O) dn fa (zLeast (zi O)) (zTurn (zi O) 0) = zPv (zi (G (A 4))) dn fa (zLeast (zi (G (A 4)))) (zTurn (zi (G (A 4))) 0) := by rw [zPv_congr hOk, zLeast_congr hOk, zTurn_congr hOk]
  rw [ev] at hp
  refine ⟨_, hp, fun q h1 h2 h3 => ?_, fun k => ?_, fun k hk => ?_⟩
  · rw [pG_o h1 h3]; simp [va_up, h1, h2]
  · rw [pG_m n4m]; simp [va_up, Ne.symm n4m, Ne.symm n6m]
  · have eR : ∀ T, va_up (va_up G (A 6) O) (A 4) T (A 4) = T := fun T => by simp [va_up]
    have hz0 : ∀ j, 2 ≤ j → j < 10003 → zi (va_up (va_up G (A 6) O) (A 4) (upd (zer (G (A 4)) 10001) 0 (if fa then O 0 else 0)) (A 4)) j = 0 := fun j h1 h2 => by
      have h3 : 2 ≤ j ∧ j < 2 + 10001 := by omega
      have h4 : ¬ j = 0 := by omega
      rw [eR]
      unfold zi upd zer
      rw [if_neg h4, if_pos h3]
      rfl
    rw [pG_row n4m hLn hLs hz0 hv k hk, eR]
    unfold zParts
    by_cases k0 : k = 0
    · rw [if_pos k0, if_pos k0]
      have h00 := hOk 0 (by omega)
      unfold zi at h00
      cases fa with
      | false => simp [zi, upd]
      | true => simp [zi, upd, h00]
    · rw [if_neg k0, if_neg k0]
