/-! dearest; two COSTS told, alike -/
def zDear (sp : Nat → Int) : Nat → Nat → Int → Int → Int
  | 0, _, b, _ => b
  | q + 1, i, b, mo => if b = -1 ∨ mo < sp i then zDear sp q (i + 1) i (sp i) else zDear sp q (i + 1) b mo
theorem dear_loop (N : Nat) (hN : 10004 ≤ N) {A : Nat → Nat} {m : Nat} {h : hS} (M : MO A m h) {C : Cs} {c : Nat} (hc : c < 4) (sp : Nat → Int) (hsp : ∀ i, i < (C c).1 → zSpare C c i (sp i)) : ∀ (q fu i : Nat) (b mo : Int) (G : Nat → Nat → Int32), RS A m h G C → i + q = (C c).1 → q < fu → (-1 ≤ b ∧ b ≤ 100) → (-1000000000 ≤ mo ∧ mo ≤ 1000000000) → ∃ G', f_M_dearest_26 N fu (w_i h G) m (iI c) (iI b) (lI mo) (iI i) = some (iI (zDear sp q i b mo), w_i h G') ∧ fr A m G G' ∧ G' m 1 = G m 1 := by
  intro q
  induction q with
  | zero =>
    intro fu i b mo G s hi hfu hb hmo
    obtain ⟨fu, rfl⟩ : ∃ q, fu = q + 1 := ⟨fu - 1, by omega⟩
    have hn := (s.2 c hc).1.2.1
    unfold f_M_dearest_26
    rw [cv_at (M.wi _), steps_is N M G s hc]
    simp only [cl]
    rw [if_pos ((iI_le (by omega) (by omega)).mpr (by omega))]
    exact ⟨G, rfl, fr.refl, rfl⟩
  | succ q ih =>
    intro fu i b mo G s hi hfu hb hmo
    obtain ⟨fu, rfl⟩ : ∃ q, fu = q + 1 := ⟨fu - 1, by omega⟩
    have hn := (s.2 c hc).1.2.1
    obtain ⟨G1, v, e, f, g, z, vr⟩ := sparedBy_S N hN M G s hc (i := i) (by omega)
    have ve : v = sp i := zSpare_un z (hsp i (by omega))
    rw [ve] at e vr
    have s1 := s.fr M f
    unfold f_M_dearest_26
    rw [cv_at (M.wi _), steps_is N M G s hc]
    simp only [cl]
    rw [if_neg (fun z => absurd ((iI_le (by omega) (by omega)).mp z) (by omega)), cv_at (M.wi _), e]
    simp only [cl]
    unfold f_M_dearest_60 f_M_dearest_66
    simp only [bn]
    rw [show iI (i : Int) + (1 : Int32) = iI ((i + 1 : Nat) : Int) by rw [show (1 : Int32) = iI 1 from rfl, iI_add]; congr 1, zDear]
    have take : ∃ G', f_M_dearest_26 N fu (w_i h G1) m (iI c) (iI i) (lI (sp i)) (iI ((i + 1 : Nat) : Int)) = some (iI (zDear sp q (i + 1) i (sp i)), w_i h G') ∧ fr A m G G' ∧ G' m 1 = G m 1 := by
      obtain ⟨G2, e2, f2, g2⟩ := ih fu (i + 1) i (sp i) G1 s1 (by omega) (by omega) (by omega) vr
      exact ⟨G2, e2, f.trans f2, by rw [g2, g]⟩
    by_cases b1 : b = -1
    · rw [if_pos (show iI b = (-1 : Int32) by rw [b1]; rfl), if_pos (Or.inl b1)]
      exact take
    · rw [if_neg (show ¬ iI b = (-1 : Int32) from fun z => b1 ((iI_eq (b := -1) (by omega) (by omega)).mp z))]
      by_cases b2 : mo < sp i
      · rw [if_pos ((lg_gt0 (by omega) (by omega)).mpr b2), if_pos (Or.inr b2)]
        exact take
      · rw [if_neg (fun z => b2 ((lg_gt0 (by omega) (by omega)).mp z)), if_neg (fun z => by rcases z with z | z; exact b1 z; exact b2 z)]
        obtain ⟨G2, e2, f2, g2⟩ := ih fu (i + 1) b mo G1 s1 (by omega) (by omega) hb hmo
        exact ⟨G2, e2, f.trans f2, by rw [g2, g]⟩
theorem dearest_S (N : Nat) (hN : 10004 ≤ N) {A : Nat → Nat} {m : Nat} {h : hS} (M : MO A m h) (G : Nat → Nat → Int32) {C : Cs} (s : RS A m h G C) {c : Int} (hc : i32 c) (sp : Nat → Int) (hsp : ∀ i, i < (C c.toNat).1 → zSpare C c.toNat i (sp i)) : aEnd A m h G (if 0 ≤ c ∧ c ≤ 3 then iI (zDear sp (C c.toNat).1 0 (-1) 0) else 0) (if 0 ≤ c ∧ c ≤ 3 then 0 else 1) (f_M_dearest N (w_i h G) m (iI c)) := by
  have c0 : va_up G m (upd (G m) 1 0) m 1 = 0 := by simp [va_up, upd]
  have s0 := s.fr M (fr.code (A := A) (m := m) (G := G) 0)
  unfold f_M_dearest
  rw [pI_at (M.wi G), s_i_wi, cv_at (M.wi _)]
  by_cases q : 0 ≤ c ∧ c ≤ 3
  · have hn := (s0.2 c.toNat (by omega)).1.2.1
    rw [isCost_y N _ _ q, if_pos q, if_pos q]
    simp only [cl]
    rw [if_neg (show ¬ (1 : Int32) = 0 by decide)]
    obtain ⟨G', e, f, g⟩ := dear_loop N hN M (c := c.toNat) (by omega) sp hsp (C c.toNat).1 N 0 (-1) 0 _ s0 (by omega) (by omega) (by omega) (by omega)
    rw [show ((c.toNat : Nat) : Int) = c by omega] at e
    exact ⟨G', e, (fr.code 0).trans f, by rw [g, c0]⟩
  · rw [isCost_n N _ _ hc q, if_neg q, if_neg q]
    simp only [cl]
    rw [if_pos trivial]
    exact fail_S N M (fr.code 0) 1 (fun v => v)
theorem tellBoth_S (N : Nat) (hN : 10004 ≤ N) {A : Nat → Nat} {m : Nat} {h : hS} (M : MO A m h) (G : Nat → Nat → Int32) {C : Cs} (s : RS A m h G C) {c d : Nat} (hc : c < 4) (hd : d < 4) : ∃ G', f_M_tellBoth N (w_i h G) m (iI c) (iI d) = some ((), w_i h G') ∧ fr A m G G' ∧ G' m 1 = G m 1 ∧ tEq (zi (G' (A 4))) (zC C c) ∧ tEq (zi (G' (A 5))) (zC C d) ∧ zInv (zC C c) ∧ zInv (zC C d) := by
  have m4 : (4, 50, 10003) ∈ mrows := by decide
  have m5 : (5, 50, 10003) ∈ mrows := by decide
  have m6 : (6, 50, 10003) ∈ mrows := by decide
  have m10 : (10, 50, 40) ∈ mrows := by decide
  have m11 : (11, 50, 40) ∈ mrows := by decide
  have n5m : A 5 ≠ m := M.ne m5 (by decide)
  have n54 : A 5 ≠ A 4 := M.nn m5 m4 (by decide)
  obtain ⟨G1, e1, f1, g1, t1, i1, w1⟩ := tell_S N hN M G s hd
  obtain ⟨G2, hG2⟩ : ∃ G2, G2 = va_up G1 (A 5) (upto (G1 (A 5)) (G1 (A 4)) 10003) := ⟨_, rfl⟩
  have f2 : fr A m G1 G2 := by rw [hG2]; exact fr.row (by decide) n5m _
  have s2 := (s.fr M f1).fr M f2
  obtain ⟨G3, res, e3, E⟩ := tell_is N hN M G2 (s2.2 c hc).1
  obtain ⟨_, _, t3, i3, _⟩ := E.2.1 (s2.2 c hc).2
  refine ⟨G3, ?_, (f1.trans f2).trans E.1.fr, ?_, t3, ?_, i3, i1⟩
  · unfold f_M_tellBoth
    rw [cv_at (M.wi _), e1]
    simp only [cl]
    rw [gR_at (M.wi _) m5, gR_at (M.wi _) m4]
    simp only [nn]
    rw [copyTo_is N (by omega) ((M.wi _).ro m5) ((M.wi _).ro m4) n54 (by omega), s_w_wi, h_i_wi, ← hG2]
    simp only []
    rw [cv_at (M.wi _), e3]
    rfl
  · rw [E.1.2 1 (by omega) (by omega), show G2 m 1 = G1 m 1 by rw [hG2]; simp [va_up, Ne.symm n5m], g1]
  · rw [E.1.1 (A 5) n54 (M.nn m5 m6 (by decide)) (M.nn m5 m10 (by decide)) (M.nn m5 m11 (by decide)) n5m]
    refine tEq.trans (fun k hk => ?_) t1
    rw [hG2]
    simp [va_up, zi, upto, hk]
