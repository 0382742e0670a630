/-! runsWith, runsWithout, spared -/
theorem first_not {P : Nat → Prop} : ∀ n, ¬ (∀ i, i < n → P i) → ∃ j, j < n ∧ (∀ i, i < j → P i) ∧ ¬ P j := by
  intro n
  induction n with
  | zero => intro h; exact absurd (fun i hi => absurd hi (by omega)) h
  | succ n ih =>
    intro h
    by_cases c : ∀ i, i < n → P i
    · refine ⟨n, by omega, c, fun q => h (fun i hi => ?_)⟩
      by_cases e : i = n
      · rw [e]; exact q
      · exact c i (by omega)
    · obtain ⟨j, h1, h2, h3⟩ := ih c
      exact ⟨j, by omega, h2, h3⟩
/-- the STEPS with another weight at one -/
def pW (p : Nat → Int × Int × Int) (st : Nat) (w : Int) (i : Nat) : Int × Int × Int := if i = st then ((p i).1, (p i).2.1, w) else p i
/-- what a run on trial leaves -/
def tEnd (A : Nat → Nat) (m : Nat) (h : hS) (G : Nat → Nat → Int32) (p : Nat → Int × Int × Int) (Y : Nat → Nat → Int) (lo : Int) (n : Nat) (r : Option (Int32 × hS)) : Prop := ∃ G' res, r = some (res, w_i h G') ∧ fr A m G G' ∧ G' m 1 = G m 1 ∧ ((∀ i, i < n → okS p Y lo i) → res = 1 ∧ tEq (zi (G' (A 4))) (zT p Y lo n) ∧ zInv (zT p Y lo n)) ∧ (¬ (∀ i, i < n → okS p Y lo i) → res = 0)
theorem rEnd.t {A : Nat → Nat} {m : Nat} {G0 G' : Nat → Nat → Int32} {p : Nat → Int × Int × Int} {Y : Nat → Nat → Int} {lo : Int} {n : Nat} {res : Int32} (e : rEnd A m G0 p Y lo n G' res) : ((∀ i, i < n → okS p Y lo i) → res = 1) ∧ (¬ (∀ i, i < n → okS p Y lo i) → res = 0) ∧ (res = 0 ∨ res = 1) := by
  have a : (∀ i, i < n → okS p Y lo i) → res = 1 := fun q => (e.2.1 q).1
  have b : ¬ (∀ i, i < n → okS p Y lo i) → res = 0 := fun q => by
    obtain ⟨j, h1, h2, h3⟩ := first_not n q
    exact (e.2.2 j h1 h2 h3).1
  refine ⟨a, b, ?_⟩
  by_cases c : ∀ i, i < n → okS p Y lo i
  · exact Or.inr (a c)
  · exact Or.inl (b c)
theorem runsWith_S (N : Nat) (hN : 10004 ≤ N) {A : Nat → Nat} {m : Nat} {h : hS} (M : MO A m h) (G : Nat → Nat → Int32) {C : Cs} (s : RS A m h G C) {c st : Nat} (hc : c < 4) (hst : st < (C c).1) (hk : ((C c).2.1 st).1 ≤ 2) {w : Int} (hw : 0 ≤ w ∧ w ≤ 99) : tEnd A m h G (pW (C c).2.1 st w) (C c).2.2 (-1) (C c).1 (f_M_runsWith N (w_i h G) m (iI c) (iI st) (iI w)) := by
  have m2 : (2, 50, 644) ∈ mrows := by decide
  have m4 : (4, 50, 10003) ∈ mrows := by decide
  have n2m : A 2 ≠ m := M.ne m2 (by decide)
  have n4m : A 4 ≠ m := M.ne m4 (by decide)
  obtain ⟨G1, hG1⟩ : ∃ G1, G1 = va_up (va_up G m (upd (G m) 14 (iI st))) m (upd (va_up G m (upd (G m) 14 (iI st)) m) 15 (iI w)) := ⟨_, rfl⟩
  have g1o : ∀ q, q ≠ m → G1 q = G q := fun q hq => by rw [hG1]; simp [va_up, hq]
  have g1m : ∀ k, k ≠ 14 → k ≠ 15 → G1 m k = G m k := fun k h1 h2 => by rw [hG1]; simp [va_up, upd, h1, h2]
  have g14 : G1 m 14 = iI st := by rw [hG1]; simp [va_up, upd]
  have g15 : G1 m 15 = iI w := by rw [hG1]; simp [va_up, upd]
  have R : rows A m h G1 (A 2) (161 * c) (C c).1 (pW (C c).2.1 st w) (C c).2.2 (-1) := by
    obtain ⟨hr, hn, hkk, hnR, ⟨hlo, hlo2⟩, os, hos, os1, os2, hs⟩ := (s.2 c hc).1
    refine ⟨hr, hn, hkk, by rw [g1o _ n2m]; exact hnR, ⟨by rw [g1m 13 (by omega) (by omega)]; exact hlo, hlo2⟩, st, g14, by omega, by omega, fun i hi hl => ?_⟩
    obtain ⟨p1, p2, p3, pk, t, pt, pY⟩ := hs i hi hl
    have sti := s.st hc hi
    rw [g1o _ n2m, g15]
    have onb : ((C c).2.1 i).1 = 8 → onB A h G1 t ((C c).2.2 i) := fun q8 => by
      obtain ⟨cc, c1, c2, c3, c4, c6, c7⟩ := pY q8
      have cm : cc ≠ m := fun q => by have e := c3.1; rw [q, M.1] at e; exact absurd e (by decide)
      exact ⟨cc, c1, c2, c3, c4, by rw [g1o cc cm]; exact c6, c7⟩
    unfold pW
    by_cases e : i = st
    · subst e
      rw [if_pos rfl]
      refine ⟨p1, p2, by rw [if_pos rfl], ?_, t, pt, onb⟩
      obtain ⟨k0, k1, k3, k4, k7⟩ := pk
      exact ⟨k0, fun q => ⟨(k1 q).1, hw⟩, fun q => by have q' : ((C c).2.1 i).1 = 3 := q; omega, fun q => by have q' : ((C c).2.1 i).1 = 4 := q; omega, fun q => by have q' : ((C c).2.1 i).1 = 7 := q; omega⟩
    · rw [if_neg e]
      exact ⟨p1, p2, by rw [if_neg (by omega)]; exact sti.2.2.1, pk, t, pt, onb⟩
  obtain ⟨G2, res, e, E⟩ := runs_is N hN M G1 R
  obtain ⟨a, b, ab⟩ := E.t
  unfold f_M_runsWith
  rw [pI_at (M.wi G), s_i_wi, pI_at (M.wi _), s_i_wi, ← hG1, gR_at (M.wi _) m2]
  simp only [nn]
  rw [cv_at (M.wi _), e]
  simp only [cl]
  rw [pI_at (M.wi _), s_i_wi]
  unfold bz
  rw [if_pos ab]
  refine ⟨_, res, rfl, ⟨fun q h1 h2 => ?_, fun k h1 => ?_⟩, ?_, fun al => ?_, b⟩
  · rw [show va_up G2 m (upd (G2 m) 14 (-1)) q = G2 q by simp [va_up, h2], E.1.fr.1 q h1 h2, g1o q h2]
  · by_cases k14 : k = 14
    · subst k14
      rw [show va_up G2 m (upd (G2 m) 14 (-1)) m 14 = -1 by simp [va_up, upd], s.1.2]
      rfl
    · have k15 : k ≠ 15 := fun e => h1 (by rw [e]; decide)
      rw [show va_up G2 m (upd (G2 m) 14 (-1)) m k = G2 m k by simp [va_up, upd, k14], E.1.fr.2 k h1, g1m k k14 k15]
  · rw [show va_up G2 m (upd (G2 m) 14 (-1)) m 1 = G2 m 1 by simp [va_up, upd], E.1.2 1 (by omega) (by omega), g1m 1 (by omega) (by omega)]
  · obtain ⟨_, _, t, iv, _⟩ := E.2.1 al
    exact ⟨a al, by rw [show va_up G2 m (upd (G2 m) 14 (-1)) (A 4) = G2 (A 4) by simp [va_up, n4m]]; exact t, iv⟩
theorem runsWithout_S (N : Nat) (hN : 10004 ≤ N) {A : Nat → Nat} {m : Nat} {h : hS} (M : MO A m h) (G : Nat → Nat → Int32) {C : Cs} (s : RS A m h G C) {c st : Nat} (hc : c < 4) (hst : st < (C c).1) : tEnd A m h G (C c).2.1 (C c).2.2 st (C c).1 (f_M_runsWithout N (w_i h G) m (iI c) (iI st)) := by
  have m2 : (2, 50, 644) ∈ mrows := by decide
  have m4 : (4, 50, 10003) ∈ mrows := by decide
  have n2m : A 2 ≠ m := M.ne m2 (by decide)
  have n4m : A 4 ≠ m := M.ne m4 (by decide)
  obtain ⟨G1, hG1⟩ : ∃ G1, G1 = va_up G m (upd (G m) 13 (iI st)) := ⟨_, rfl⟩
  have g1o : ∀ q, q ≠ m → G1 q = G q := fun q hq => by rw [hG1]; simp [va_up, hq]
  have g1m : ∀ k, k ≠ 13 → G1 m k = G m k := fun k h1 => by rw [hG1]; simp [va_up, upd, h1]
  have g13 : G1 m 13 = iI st := by rw [hG1]; simp [va_up, upd]
  have R : rows A m h G1 (A 2) (161 * c) (C c).1 (C c).2.1 (C c).2.2 st := by
    obtain ⟨hr, hn, hkk, hnR, ⟨hlo, hlo2⟩, os, hos, os1, os2, hs⟩ := (s.2 c hc).1
    refine ⟨hr, hn, hkk, by rw [g1o _ n2m]; exact hnR, ⟨g13, by omega⟩, os, by rw [g1m 14 (by omega)]; exact hos, os1, os2, fun i hi hl => ?_⟩
    obtain ⟨p1, p2, p3, pk, t, pt, pY⟩ := hs i hi (by omega)
    rw [g1o _ n2m, g1m 15 (by omega)]
    refine ⟨p1, p2, p3, pk, t, pt, fun q8 => ?_⟩
    obtain ⟨cc, c1, c2, c3, c4, c6, c7⟩ := pY q8
    have cm : cc ≠ m := fun q => by have e := c3.1; rw [q, M.1] at e; exact absurd e (by decide)
    exact ⟨cc, c1, c2, c3, c4, by rw [g1o cc cm]; exact c6, c7⟩
  obtain ⟨G2, res, e, E⟩ := runs_is N hN M G1 R
  obtain ⟨a, b, ab⟩ := E.t
  unfold f_M_runsWithout
  rw [pI_at (M.wi G), s_i_wi, ← hG1, gR_at (M.wi _) m2]
  simp only [nn]
  rw [cv_at (M.wi _), e]
  simp only [cl]
  rw [pI_at (M.wi _), s_i_wi]
  unfold bz
  rw [if_pos ab]
  refine ⟨_, res, rfl, ⟨fun q h1 h2 => ?_, fun k h1 => ?_⟩, ?_, fun al => ?_, b⟩
  · rw [show va_up G2 m (upd (G2 m) 13 (-1)) q = G2 q by simp [va_up, h2], E.1.fr.1 q h1 h2, g1o q h2]
  · by_cases k13 : k = 13
    · subst k13
      rw [show va_up G2 m (upd (G2 m) 13 (-1)) m 13 = -1 by simp [va_up, upd], s.1.1]
      rfl
    · rw [show va_up G2 m (upd (G2 m) 13 (-1)) m k = G2 m k by simp [va_up, upd, k13], E.1.fr.2 k h1, g1m k k13]
  · rw [show va_up G2 m (upd (G2 m) 13 (-1)) m 1 = G2 m 1 by simp [va_up, upd], E.1.2 1 (by omega) (by omega), g1m 1 (by omega)]
  · obtain ⟨_, _, t, iv, _⟩ := E.2.1 al
    exact ⟨a al, by rw [show va_up G2 m (upd (G2 m) 13 (-1)) (A 4) = G2 (A 4) by simp [va_up, n4m]]; exact t, iv⟩
