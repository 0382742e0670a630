/-! THE REFERENCE'S STATE, and its first askers -/
def i32 (z : Int) : Prop := -2147483648 ≤ z ∧ z ≤ 2147483647
theorem isCost_is (N : Nat) (h : hS) (m : Nat) {c : Int} (hc : i32 c) : f_M_isCost N h m (iI c) = some (if 0 ≤ c ∧ c ≤ 3 then 1 else 0, h) := by
  unfold i32 at hc
  unfold f_M_isCost
  rw [iI_l hc.1 hc.2, show (0 : Int64) = lI 0 from rfl, show (3 : Int64) = lI 3 from rfl, isIn_is N h (by omega) (by omega) (by omega)]
  simp only [cl]
  unfold bz
  by_cases q : 0 ≤ c ∧ c ≤ 3
  · rw [if_pos q, if_pos (Or.inr rfl)]
  · rw [if_neg q, if_pos (Or.inl rfl)]
theorem isX_is (N : Nat) (h : hS) {c : Int} (hc : i32 c) : f_M_isX N h (iI c) = some (if -100000 ≤ c ∧ c ≤ 100000 then 1 else 0, h) := by
  unfold i32 at hc
  unfold f_M_isX
  rw [iI_l hc.1 hc.2, show (-100000 : Int64) = lI (-100000) from rfl, show (100000 : Int64) = lI 100000 from rfl, isIn_is N h (by omega) (by omega) (by omega)]
  simp only [cl]
  unfold bz
  by_cases q : -100000 ≤ c ∧ c ≤ 100000
  · rw [if_pos q, if_pos (Or.inr rfl)]
  · rw [if_neg q, if_pos (Or.inl rfl)]
theorem isCost_y (N : Nat) (h : hS) (m : Nat) {c : Int} (hc : 0 ≤ c ∧ c ≤ 3) : f_M_isCost N h m (iI c) = some (1, h) := by rw [isCost_is N h m ⟨by omega, by omega⟩, if_pos hc]
theorem isCost_n (N : Nat) (h : hS) (m : Nat) {c : Int} (hi : i32 c) (hc : ¬ (0 ≤ c ∧ c ≤ 3)) : f_M_isCost N h m (iI c) = some (0, h) := by rw [isCost_is N h m hi, if_neg hc]
theorem isX_y (N : Nat) (h : hS) {c : Int} (hc : -100000 ≤ c ∧ c ≤ 100000) : f_M_isX N h (iI c) = some (1, h) := by rw [isX_is N h ⟨by omega, by omega⟩, if_pos hc]
theorem isX_n (N : Nat) (h : hS) {c : Int} (hi : i32 c) (hc : ¬ (-100000 ≤ c ∧ c ≤ 100000)) : f_M_isX N h (iI c) = some (0, h) := by rw [isX_is N h hi, if_neg hc]
theorem fail_is (N : Nat) {A : Nat → Nat} {m : Nat} {h : hS} (M : MO A m h) (G : Nat → Nat → Int32) (c : Int32) : f_M_fail N (w_i h G) m c = some (0, w_i h (va_up G m (upd (G m) 1 c))) := by
  unfold f_M_fail
  rw [pI_at (M.wi G), s_i_wi]
/-- the COSTS: how many STEPS, the STEPS, the tables on top of them -/
abbrev Cs := Nat → Nat × (Nat → Int × Int × Int) × (Nat → Nat → Int)
def RS (A : Nat → Nat) (m : Nat) (h : hS) (G : Nat → Nat → Int32) (C : Cs) : Prop := (G m 13 = iI (-1) ∧ G m 14 = iI (-1)) ∧ ∀ c, c < 4 → rows A m h G (A 2) (161 * c) (C c).1 (C c).2.1 (C c).2.2 (-1) ∧ ∀ i, i < (C c).1 → okS (C c).2.1 (C c).2.2 (-1) i
/-- the table of a COST -/
def zC (C : Cs) (c : Nat) : Nat → Int := zT (C c).2.1 (C c).2.2 (-1) (C c).1
/-- what an asker may change: these rows, and these fields -/
abbrev scr : List Nat := [4, 5, 6, 10, 11, 30]
abbrev scf : List Nat := [1, 9, 12, 15]
def fr (A : Nat → Nat) (m : Nat) (G G' : Nat → Nat → Int32) : Prop := (∀ q, (∀ i ∈ scr, q ≠ A i) → q ≠ m → G' q = G q) ∧ ∀ k, k ∉ scf → G' m k = G m k
theorem fr.refl {A : Nat → Nat} {m : Nat} {G : Nat → Nat → Int32} : fr A m G G := ⟨fun _ _ _ => rfl, fun _ _ => rfl⟩
theorem fr.trans {A : Nat → Nat} {m : Nat} {G G' H : Nat → Nat → Int32} (a : fr A m G G') (b : fr A m G' H) : fr A m G H := ⟨fun q h1 h2 => (b.1 q h1 h2).trans (a.1 q h1 h2), fun k h1 => (b.2 k h1).trans (a.2 k h1)⟩
theorem fr.fld {A : Nat → Nat} {m : Nat} {G : Nat → Nat → Int32} {i : Nat} (hi : i ∈ scf) (c : Int32) : fr A m G (va_up G m (upd (G m) i c)) := ⟨fun q _ h5 => by simp [va_up, h5], fun k h1 => by
  have : k ≠ i := fun e => h1 (by rw [e]; exact hi)
  simp [va_up, upd, this]⟩
theorem fr.code {A : Nat → Nat} {m : Nat} {G : Nat → Nat → Int32} (c : Int32) : fr A m G (va_up G m (upd (G m) 1 c)) := fr.fld (by decide) c
theorem fr.row {A : Nat → Nat} {m : Nat} {G : Nat → Nat → Int32} {i : Nat} (hi : i ∈ scr) (hm : A i ≠ m) (T : Nat → Int32) : fr A m G (va_up G (A i) T) := ⟨fun q h1 _ => by
  have : q ≠ A i := h1 i hi
  simp [va_up, this], fun k _ => by simp [va_up, Ne.symm hm]⟩
theorem sG.fr {A : Nat → Nat} {m : Nat} {G G' : Nat → Nat → Int32} (s : sG A m G G') : fr A m G G' := ⟨fun q h1 h2 => s.1 q (h1 4 (by decide)) (h1 6 (by decide)) (h1 10 (by decide)) (h1 11 (by decide)) h2, fun k h1 => s.2 k (fun e => h1 (by rw [e]; decide)) (fun e => h1 (by rw [e]; decide))⟩
theorem rows_fr {A : Nat → Nat} {m : Nat} {h : hS} (M : MO A m h) {G G' : Nat → Nat → Int32} (f : fr A m G G') {r k n : Nat} {p : Nat → Int × Int × Int} {Y : Nat → Nat → Int} {lo : Int} (h14 : G m 14 = iI (-1)) (hR : rows A m h G r k n p Y lo) : rows A m h G' r k n p Y lo := by
  have m4 : (4, 50, 10003) ∈ mrows := by decide
  have m6 : (6, 50, 10003) ∈ mrows := by decide
  have m10 : (10, 50, 40) ∈ mrows := by decide
  have m11 : (11, 50, 40) ∈ mrows := by decide
  obtain ⟨hr, hn, hk, hnR, ⟨hlo, hlo2⟩, os, hos, os1, os2, hst⟩ := hR
  have rm : r ≠ m := fun q => by have e := hr.1; rw [q, M.1] at e; exact absurd e (by decide)
  have m5 : (5, 50, 10003) ∈ mrows := by decide
  have m30 : (30, 50, 41) ∈ mrows := by decide
  have far : ∀ {q n : Nat}, ro h q n → n ≠ 40 → n ≠ 41 → (n = 10003 → A 4 ≠ q ∧ A 5 ≠ q ∧ A 6 ≠ q) → ∀ i ∈ scr, q ≠ A i := fun {q n} hq n1 n2 n3 i hi => by
    by_cases nn : n = 10003
    · obtain ⟨a, b, c⟩ := n3 nn
      subst nn
      rcases List.mem_cons.mp hi with e | hi
      · rw [e]; exact Ne.symm a
      rcases List.mem_cons.mp hi with e | hi
      · rw [e]; exact Ne.symm b
      rcases List.mem_cons.mp hi with e | hi
      · rw [e]; exact Ne.symm c
      rcases List.mem_cons.mp hi with e | hi
      · rw [e]; exact ro_ne hq (M.ro m10) n1
      rcases List.mem_cons.mp hi with e | hi
      · rw [e]; exact ro_ne hq (M.ro m11) n1
      rw [List.mem_singleton.mp hi]; exact ro_ne hq (M.ro m30) n2
    · rcases List.mem_cons.mp hi with e | hi
      · rw [e]; exact ro_ne hq (M.ro m4) nn
      rcases List.mem_cons.mp hi with e | hi
      · rw [e]; exact ro_ne hq (M.ro m5) nn
      rcases List.mem_cons.mp hi with e | hi
      · rw [e]; exact ro_ne hq (M.ro m6) nn
      rcases List.mem_cons.mp hi with e | hi
      · rw [e]; exact ro_ne hq (M.ro m10) n1
      rcases List.mem_cons.mp hi with e | hi
      · rw [e]; exact ro_ne hq (M.ro m11) n1
      rw [List.mem_singleton.mp hi]; exact ro_ne hq (M.ro m30) n2
  have er := f.1 r (far hr (by decide) (by decide) (fun e => absurd e (by decide))) rm
  have e13 := f.2 13 (by decide)
  have e14 := f.2 14 (by decide)
  have eo : os = -1 := by
    rw [hos] at h14
    exact (iI_eq (by omega) (by omega)).mp h14
  refine ⟨hr, hn, hk, by rw [er]; exact hnR, ⟨by rw [e13]; exact hlo, hlo2⟩, os, by rw [e14]; exact hos, os1, os2, fun i hi hl => ?_⟩
  obtain ⟨p1, p2, p3, pk, t, pt, pY⟩ := hst i hi hl
  rw [er]
  have no : ¬ (i : Int) = os := by omega
  rw [if_neg no] at p3
  refine ⟨p1, p2, by rw [if_neg no]; exact p3, pk, t, pt, fun q8 => ?_⟩
  obtain ⟨c, c1, c2, c3, c4, c6, c7⟩ := pY q8
  have cm : c ≠ m := fun q => by have e := c3.1; rw [q, M.1] at e; exact absurd e (by decide)
  exact ⟨c, c1, c2, c3, c4, by rw [f.1 c (far c3 (by decide) (by decide) (fun _ => c4)) cm]; exact c6, c7⟩
theorem RS.fr {A : Nat → Nat} {m : Nat} {h : hS} (M : MO A m h) {G G' : Nat → Nat → Int32} {C : Cs} (s : RS A m h G C) (f : fr A m G G') : RS A m h G' C :=
  ⟨⟨(f.2 13 (by decide)).trans s.1.1, (f.2 14 (by decide)).trans s.1.2⟩, fun c hc => ⟨rows_fr M f s.1.2 (s.2 c hc).1, (s.2 c hc).2⟩⟩
/-- a COST is told -/
theorem tell_S (N : Nat) (hN : 10004 ≤ N) {A : Nat → Nat} {m : Nat} {h : hS} (M : MO A m h) (G : Nat → Nat → Int32) {C : Cs} (s : RS A m h G C) {c : Nat} (hc : c < 4) : ∃ G', f_M_tell N (w_i h G) m (iI c) = some ((), w_i h G') ∧ fr A m G G' ∧ G' m 1 = G m 1 ∧ tEq (zi (G' (A 4))) (zC C c) ∧ zInv (zC C c) ∧ was A G' (C c).2.1 (C c).2.2 (-1) (C c).1 := by
  obtain ⟨G', res, e, e1, e2, _⟩ := tell_is N hN M G (s.2 c hc).1
  obtain ⟨_, _, a, b, d⟩ := e2 (s.2 c hc).2
  exact ⟨G', e, e1.fr, e1.2 1 (by omega) (by omega), a, b, d⟩
/-- what an asker leaves: its answer, its code, the state as it was -/
def aEnd (A : Nat → Nat) (m : Nat) (h : hS) (G : Nat → Nat → Int32) {α : Type} (ans : α) (code : Int32) (r : Option (α × hS)) : Prop := ∃ G', r = some (ans, w_i h G') ∧ fr A m G G' ∧ G' m 1 = code
theorem least_S (N : Nat) (hN : 10004 ≤ N) {A : Nat → Nat} {m : Nat} {h : hS} (M : MO A m h) (G : Nat → Nat → Int32) {C : Cs} (s : RS A m h G C) {c : Int} (hc : i32 c) : aEnd A m h G (if 0 ≤ c ∧ c ≤ 3 then lI (zLeast (zC C c.toNat)) else 0) (if 0 ≤ c ∧ c ≤ 3 then 0 else 1) (f_M_least N (w_i h G) m (iI c)) := by
  have m4 : (4, 50, 10003) ∈ mrows := by decide
  unfold f_M_least
  rw [pI_at (M.wi G), s_i_wi, cv_at (M.wi _), isCost_is N _ _ hc]
  simp only [cl]
  have c0 : va_up G m (upd (G m) 1 0) m 1 = 0 := by simp [va_up, upd]
  by_cases q : 0 ≤ c ∧ c ≤ 3
  · rw [if_pos q, if_pos q, if_pos q, if_neg (show ¬ (1 : Int32) = 0 by decide), cv_at (M.wi _)]
    obtain ⟨G', e, f, g, t, i, w⟩ := tell_S N hN M _ (s.fr M (fr.code 0)) (c := c.toNat) (by omega)
    rw [show ((c.toNat : Nat) : Int) = c by omega] at e
    rw [e]
    simp only [cl]
    rw [gR_at (M.wi _) m4]
    simp only [nn]
    rw [leastOf_is N (by omega) ((M.wi _).ro m4) (by rw [h_i_wi]; exact (t.symm.inv i).sb), h_i_wi, zLeast_congr t]
    exact ⟨G', rfl, (fr.code 0).trans f, by rw [g, c0]⟩
  · rw [if_neg q, if_neg q, if_neg q, if_pos rfl, cv_at (M.wi _), fail_is N M]
    exact ⟨_, rfl, (fr.code 0).trans (fr.code 1), by simp [va_up, upd]⟩
theorem at_S (N : Nat) (hN : 10004 ≤ N) {A : Nat → Nat} {m : Nat} {h : hS} (M : MO A m h) (G : Nat → Nat → Int32) {C : Cs} (s : RS A m h G C) {c x : Int} (hc : i32 c) (hx : i32 x) : aEnd A m h G (if (0 ≤ c ∧ c ≤ 3) ∧ (-100000 ≤ x ∧ x ≤ 100000) then lI (zVal (zC C c.toNat) x) else 0) (if 0 ≤ c ∧ c ≤ 3 then (if -100000 ≤ x ∧ x ≤ 100000 then 0 else 2) else 1) (f_M_at N (w_i h G) m (iI c) (iI x)) := by
  have m4 : (4, 50, 10003) ∈ mrows := by decide
  have bad : ∀ H, fr A m G H → ¬ ((0 ≤ c ∧ c ≤ 3) ∧ (-100000 ≤ x ∧ x ≤ 100000)) → aEnd A m h G (0 : Int64) (if 0 ≤ c ∧ c ≤ 3 then (if -100000 ≤ x ∧ x ≤ 100000 then 0 else 2) else 1) (f_M_at_20 N (w_i h H) m (iI c)) := fun H hH hq => by
    unfold f_M_at_20 f_M_at_34
    rw [cv_at (M.wi _), isCost_is N _ _ hc]
    simp only [cl]
    by_cases q : 0 ≤ c ∧ c ≤ 3
    · rw [if_pos q, if_pos q, if_neg (show ¬ (1 : Int32) = 0 by decide), cv_at (M.wi _), fail_is N M, if_neg (fun q2 => hq ⟨q, q2⟩)]
      exact ⟨_, rfl, hH.trans (fr.code 2), by simp [va_up, upd]⟩
    · rw [if_neg q, if_neg q, if_pos rfl, cv_at (M.wi _), fail_is N M]
      exact ⟨_, rfl, hH.trans (fr.code 1), by simp [va_up, upd]⟩
  unfold f_M_at
  rw [pI_at (M.wi G), s_i_wi, cv_at (M.wi _)]
  have c0 : va_up G m (upd (G m) 1 0) m 1 = 0 := by simp [va_up, upd]
  by_cases q : 0 ≤ c ∧ c ≤ 3
  · rw [isCost_y N _ _ q]
    simp only [cl]
    rw [if_neg (show ¬ (1 : Int32) = 0 by decide)]
    by_cases q2 : -100000 ≤ x ∧ x ≤ 100000
    · rw [isX_y N _ q2, if_pos (⟨q, q2⟩ : (0 ≤ c ∧ c ≤ 3) ∧ (-100000 ≤ x ∧ x ≤ 100000)), if_pos q, if_pos q2]
      simp only []
      rw [if_neg (show ¬ (1 : Int32) = 0 by decide), cv_at (M.wi _)]
      obtain ⟨G', e, f, g, t, i, w⟩ := tell_S N hN M _ (s.fr M (fr.code 0)) (c := c.toNat) (by omega)
      rw [show ((c.toNat : Nat) : Int) = c by omega] at e
      rw [e]
      simp only [cl]
      rw [gR_at (M.wi _) m4]
      simp only [nn]
      rw [valueAt_is N (by omega) ((M.wi _).ro m4) (by omega) (by omega), h_i_wi, zVal_congr t]
      exact ⟨G', rfl, (fr.code 0).trans f, by rw [g, c0]⟩
    · have nq : ¬ ((0 ≤ c ∧ c ≤ 3) ∧ (-100000 ≤ x ∧ x ≤ 100000)) := fun z => q2 z.2
      rw [isX_n N _ hx q2]
      simp only []
      rw [if_pos trivial, show (if (0 ≤ c ∧ c ≤ 3) ∧ (-100000 ≤ x ∧ x ≤ 100000) then lI (zVal (zC C c.toNat) x) else 0) = 0 from if_neg nq]
      exact bad _ (fr.code 0) nq
  · have nq : ¬ ((0 ≤ c ∧ c ≤ 3) ∧ (-100000 ≤ x ∧ x ≤ 100000)) := fun z => q z.1
    rw [isCost_n N _ _ hc q]
    simp only [cl]
    rw [if_pos trivial, show (if (0 ≤ c ∧ c ≤ 3) ∧ (-100000 ≤ x ∧ x ≤ 100000) then lI (zVal (zC C c.toNat) x) else 0) = 0 from if_neg nq]
    exact bad _ (fr.code 0) nq
