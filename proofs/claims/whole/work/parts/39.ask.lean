/-! kink, slope, flat -/
theorem isIn_y (N : Nat) (h : hS) {v a b : Int} (hv : i32 v) (ha : i32 a) (hb : i32 b) (q : a ≤ v ∧ v ≤ b) : f_M_isIn N h (lI v) (lI a) (lI b) = some (1, h) := by
  unfold i32 at *
  rw [isIn_is N h (by omega) (by omega) (by omega), if_pos q]
theorem isIn_n (N : Nat) (h : hS) {v a b : Int} (hv : i32 v) (ha : i32 a) (hb : i32 b) (q : ¬ (a ≤ v ∧ v ≤ b)) : f_M_isIn N h (lI v) (lI a) (lI b) = some (0, h) := by
  unfold i32 at *
  rw [isIn_is N h (by omega) (by omega) (by omega), if_neg q]
theorem i32_c {a : Int} (h1 : -2147483648 ≤ a) (h2 : a ≤ 2147483647) : i32 a := ⟨h1, h2⟩
/-- an asker that refuses with a code -/
theorem fail_S (N : Nat) {A : Nat → Nat} {m : Nat} {h : hS} (M : MO A m h) {G H : Nat → Nat → Int32} (hH : fr A m G H) (c : Int32) {α : Type} (k : Int32 → α) : aEnd A m h G (k 0) c (cv (w_i h H) (some m) 0 (fun a => f_M_fail N (w_i h H) a c) fun v g => some (k v, g)) := by
  rw [cv_at (M.wi _), fail_is N M]
  exact ⟨_, rfl, hH.trans (fr.code c), by simp [va_up, upd]⟩
def kinkAns (C : Cs) (c i w : Int) : Option Int := if ((0 ≤ c ∧ c ≤ 3) ∧ (0 ≤ w ∧ w ≤ 1)) ∧ 0 ≤ i then ((zK (zC C c.toNat))[i.toNat]?).map (fun e => if w = 0 then e.1 else e.2) else none
theorem kink_S (N : Nat) (hN : 10004 ≤ N) {A : Nat → Nat} {m : Nat} {h : hS} (M : MO A m h) (G : Nat → Nat → Int32) {C : Cs} (s : RS A m h G C) {c i w : Int} (hc : i32 c) (hi : i32 i) (hw : i32 w) : aEnd A m h G (iI ((kinkAns C c i w).getD 0)) (if (kinkAns C c i w).isSome then 0 else 1) (f_M_kink N (w_i h G) m (iI c) (iI i) (iI w)) := by
  have m4 : (4, 50, 10003) ∈ mrows := by decide
  have c0 : va_up G m (upd (G m) 1 0) m 1 = 0 := by simp [va_up, upd]
  have no : ∀ H, fr A m G H → kinkAns C c i w = none → aEnd A m h G (iI ((kinkAns C c i w).getD 0)) (if (kinkAns C c i w).isSome then 0 else 1) (f_M_kink_27 N (w_i h H) m) := fun H hH e => by
    rw [e]
    exact fail_S N M hH 1 (fun v => v)
  unfold f_M_kink
  rw [pI_at (M.wi G), s_i_wi, cv_at (M.wi _)]
  by_cases q : 0 ≤ c ∧ c ≤ 3
  · rw [isCost_y N _ _ q]
    simp only [cl]
    rw [if_neg (show ¬ (1 : Int32) = 0 by decide), iI_l hw.1 hw.2, show (0 : Int64) = lI 0 from rfl, show (1 : Int64) = lI 1 from rfl]
    by_cases q2 : 0 ≤ w ∧ w ≤ 1
    · rw [isIn_y N _ hw (i32_c (by omega) (by omega)) (i32_c (by omega) (by omega)) q2]
      simp only []
      rw [if_neg (show ¬ (1 : Int32) = 0 by decide)]
      by_cases q3 : 0 ≤ i
      · unfold i32 at hi
        rw [if_pos (show (0 : Int32) ≤ iI i from (iI_le (a := 0) (by omega) (by omega)).mpr q3), cv_at (M.wi _)]
        obtain ⟨G', e, f, g, t, iv, ws⟩ := tell_S N hN M _ (s.fr M (fr.code 0)) (c := c.toNat) (by omega)
        rw [show ((c.toNat : Nat) : Int) = c by omega] at e
        rw [e]
        simp only [cl]
        have kl := kink_loop N (M.wi G') (by rw [h_i_wi]; exact (t.symm.inv iv).1.1) q2 10001 N 0 i.toNat (by omega) (by omega) (by omega)
        rw [h_i_wi, show ((i.toNat : Nat) : Int) = i by omega, show iI ((0 : Nat) : Int) = (0 : Int32) from rfl, show (dlist (zi (G' (A 4))) 0 10001 0).filter kf = zK (zC C c.toNat) from zK_congr t] at kl
        rw [kl]
        have an : kinkAns C c i w = ((zK (zC C c.toNat))[i.toNat]?).map (fun e => if w = 0 then e.1 else e.2) := by unfold kinkAns; rw [if_pos ⟨⟨q, q2⟩, q3⟩]
        rw [an]
        cases (zK (zC C c.toNat))[i.toNat]? with
        | none =>
          simp only [Option.map_none]
          rw [fail_is N M]
          exact ⟨_, rfl, ((fr.code 0).trans f).trans (fr.code 1), by simp [va_up, upd]⟩
        | some e => exact ⟨G', rfl, (fr.code 0).trans f, by rw [g, c0]; rfl⟩
      · unfold i32 at hi
        rw [if_neg (show ¬ (0 : Int32) ≤ iI i from fun z => q3 ((iI_le (a := 0) (by omega) (by omega)).mp z))]
        exact no _ (fr.code 0) (by unfold kinkAns; rw [if_neg (fun z => q3 z.2)])
    · rw [isIn_n N _ hw (i32_c (by omega) (by omega)) (i32_c (by omega) (by omega)) q2]
      simp only []
      rw [if_pos trivial]
      exact no _ (fr.code 0) (by unfold kinkAns; rw [if_neg (fun z => q2 z.1.2)])
  · rw [isCost_n N _ _ hc q]
    simp only [cl]
    rw [if_pos trivial]
    exact no _ (fr.code 0) (by unfold kinkAns; rw [if_neg (fun z => q z.1.1)])
