/-! THE REFERENCE'S WHOLE STATE, of the label 300, beside the class's -/
/-- a cost's steps in a row of the reference -/
def R1 (A : Nat → Nat) (h : hS) (r k : Nat) (x : ChT) : Prop := h_i h r k = iI x.1 ∧ x.1 ≤ 40 ∧ ∀ i, i < x.1 → h_i h r (k + 1 + 4 * i) = iI (x.2.1 i).1 ∧ h_i h r (k + 1 + 4 * i + 1) = iI (x.2.1 i).2.1 ∧ h_i h r (k + 1 + 4 * i + 2) = iI (x.2.1 i).2.2 ∧ ∃ t : Int, h_i h r (k + 1 + 4 * i + 3) = iI t ∧ ((x.2.1 i).1 = 8 → onB A h (h_i h) t (x.2.2 i))
/-- what was, so many acts ago -/
def bkC (C : Cs) (E : AcT) (na : Nat) : Nat → Cs
  | 0 => C
  | d + 1 => upC (bkC C E na d) (E (na - 1 - d)).1 (E (na - 1 - d)).2
/-- the number t is named by steps that stand in a row -/
def nmd (h : hS) (r off t : Nat) : Prop := ∃ c : Nat, c < 4 ∧ ∃ i : Nat, i < 40 ∧ (i : Int) < (h_i h r (off + 161 * c)).toInt ∧ h_i h r (off + 161 * c + 1 + 4 * i) = 8 ∧ h_i h r (off + 161 * c + 1 + 4 * i + 3) = iI t
/-- each act names at most three tables that were not named ahead of it -/
def cov (h : hS) (r0 rp na : Nat) : Prop := ∃ D : Nat → List Nat, (∀ k, k < na → (D k).length ≤ 3) ∧ ∀ k, k < na → ∀ t, t < 1000 → (if k + 1 = na then nmd h r0 0 t else nmd h rp (644 * (k + 1)) t) → nmd h rp (644 * k) t ∨ t ∈ D k
/-- a state in the reference's rows: now, past, notes (places, values), what was refused; how many acts, notes -/
def RT0 (A : Nat → Nat) (h : hS) (r0 rp rx rv rs : Nat) (fa fn : Int32) (S : StT) : Prop := (∀ c, c < 4 → R1 A h r0 (161 * c) (S.1 c)) ∧ (fa = iI S.2.1 ∧ S.2.1 ≤ 40 ∧ fn = iI S.2.2.2.1 ∧ S.2.2.2.1 ≤ 8) ∧ (∀ k, k < S.2.1 → ∀ c, c < 4 → R1 A h rp (644 * k + 161 * c) (bkC S.1 S.2.2.1 S.2.1 (S.2.1 - k) c)) ∧ (∀ k, S.2.1 ≤ k → k < 40 → ∀ c, c < 4 → h_i h rp (644 * k + 161 * c) = 0) ∧ (∀ k, k < S.2.2.2.1 → h_i h rx k = iI (S.2.2.2.2.1 k) ∧ h_j h rv k = S.2.2.2.2.2.1 k) ∧ (∀ k, k < 3 → h_i h rs k = S.2.2.2.2.2.2 k) ∧ cov h r0 rp S.2.1
/-- the tables on top -/
def TB (ρ : Nat → Nat) (A : Nat → Nat) (h : hS) : Prop := (∀ t, t < 1000 → h_r h (A 7) t = none ∨ ∃ c, h_r h (A 7) t = some c ∧ ro h c 10003 ∧ ρ c = 300 ∧ c < h_x h ∧ A 4 ≠ c ∧ A 5 ≠ c ∧ A 6 ≠ c) ∧ ∀ t t' c, t < 1000 → t' < 1000 → h_r h (A 7) t = some c → h_r h (A 7) t' = some c → t = t'
def RM (ρ : Nat → Nat) (A : Nat → Nat) (m : Nat) (h : hS) (F : FT) : Prop := (MO A m h ∧ (ρ m = 300 ∧ m < h_x h) ∧ ∀ q ∈ mrows, ρ (A q.1) = 300 ∧ A q.1 < h_x h) ∧ TB ρ A h ∧ (h_i h m 13 = iI (-1) ∧ h_i h m 14 = iI (-1)) ∧ (∀ k, k < 9 → WD ρ h (h_r h (A 0) k) (zWord k)) ∧ (RT0 A h (A 2) (A 42) (A 44) (A 45) (A 3) (h_i h m 41) (h_i h m 43) F.1 ∧ vS F.1) ∧ (match F.2.1 with
  | none => h_i h m 49 = 0 ∧ (∀ c, c < 4 → h_i h (A 52) (161 * c) = 0) ∧ ∀ k, k < 40 → ∀ c, c < 4 → h_i h (A 53) (644 * k + 161 * c) = 0
  | some S => h_i h m 49 = 1 ∧ RT0 A h (A 52) (A 53) (A 54) (A 56) (A 55) (h_i h m 50) (h_i h m 51) S ∧ vS S) ∧ (h_i h m 20 = iI F.2.2.1.1 ∧ F.2.2.1.1 ≤ 600 ∧ ∀ i, i < F.2.2.1.1 → h_i h (A 17) i = iI (F.2.2.1.2 i)) ∧ h_i h m 29 = iI F.2.2.2
/-- what may be changed at any time: these rows, fields, rows of longs -/
abbrev scR : List Nat := [4, 5, 6, 8, 10, 11, 16, 18, 19, 30, 46]
abbrev scF : List Nat := [1, 9, 12, 15, 21, 22, 23, 24, 25, 26, 27, 28, 32, 33, 35, 38, 39, 40, 48]
abbrev scJ : List Nat := [31, 34, 36, 37, 47]
def frM (A : Nat → Nat) (m : Nat) (h g : hS) : Prop := (h_k g = h_k h ∧ h_n g = h_n h ∧ h_r g = h_r h ∧ h_x g = h_x h ∧ h_s g = h_s h) ∧ (∀ q, (∀ i ∈ scR, q ≠ A i) → q ≠ m → h_i g q = h_i h q) ∧ (∀ k, k ∉ scF → h_i g m k = h_i h m k) ∧ ∀ q, (∀ i ∈ scJ, q ≠ A i) → h_j g q = h_j h q
theorem frM.rf {A : Nat → Nat} {m : Nat} {h : hS} : frM A m h h := ⟨⟨rfl, rfl, rfl, rfl, rfl⟩, fun _ _ _ => rfl, fun _ _ => rfl, fun _ _ => rfl⟩
theorem frM.trans {A : Nat → Nat} {m : Nat} {h g u : hS} (a : frM A m h g) (b : frM A m g u) : frM A m h u := by
  obtain ⟨⟨a1, a2, a3, a4, a5⟩, a6, a7, a8⟩ := a
  obtain ⟨⟨b1, b2, b3, b4, b5⟩, b6, b7, b8⟩ := b
  exact ⟨⟨b1.trans a1, b2.trans a2, b3.trans a3, b4.trans a4, b5.trans a5⟩, fun q h1 h2 => (b6 q h1 h2).trans (a6 q h1 h2), fun k h1 => (b7 k h1).trans (a7 k h1), fun q h1 => (b8 q h1).trans (a8 q h1)⟩
theorem fr.m {A : Nat → Nat} {m : Nat} {h : hS} {G : Nat → Nat → Int32} (f : fr A m (h_i h) G) : frM A m h (w_i h G) := by
  refine ⟨⟨rfl, rfl, rfl, rfl, rfl⟩, fun q h1 h2 => f.1 q (fun i hi => h1 i ?_) h2, fun k h1 => f.2 k (fun z => h1 ?_), fun _ _ => rfl⟩
  · simp only [List.mem_cons, List.not_mem_nil, or_false] at hi ⊢
    omega
  · simp only [List.mem_cons, List.not_mem_nil, or_false] at z ⊢
    omega
theorem frM.field {A : Nat → Nat} {m : Nat} {h : hS} {i : Nat} (hi : i ∈ scF) (v : Int32) : frM A m h (s_i h m i v) := by
  refine ⟨⟨rfl, rfl, rfl, rfl, rfl⟩, fun q _ h2 => by rw [h_i_si, if_neg h2], fun k h1 => ?_, fun _ _ => rfl⟩
  rw [h_i_si, if_pos rfl, upd_o (fun e => h1 (by rw [e]; exact hi))]
theorem frM.row {A : Nat → Nat} {m : Nat} {h : hS} {i j : Nat} (hi : i ∈ scR) (hm : A i ≠ m) (v : Int32) : frM A m h (s_i h (A i) j v) := by
  refine ⟨⟨rfl, rfl, rfl, rfl, rfl⟩, fun q h1 _ => by rw [h_i_si, if_neg (h1 i hi)], fun k _ => ?_, fun _ _ => rfl⟩
  rw [h_i_si, if_neg (Ne.symm hm)]
theorem MO.rf {A : Nat → Nat} {m : Nat} {h g : hS} (M : MO A m h) (k : h_k g = h_k h) (n : h_n g = h_n h) (r : h_r g = h_r h) : MO A m g := by
  obtain ⟨a, b, c⟩ := M
  exact ⟨by rw [k]; exact a, fun q hq => by rw [k, n, r]; exact b q hq, c⟩
theorem onB.cg {A : Nat → Nat} {h g : hS} {t : Int} {Y : Nat → Int} (O : onB A h (h_i h) t Y) (h1 : ∀ c, h_r h (A 7) t.toNat = some c → h_r g (A 7) t.toNat = some c ∧ (ro h c 10003 → ro g c 10003) ∧ h_i g c = h_i h c) : onB A g (h_i g) t Y := by
  obtain ⟨c, c1, c2, c3, c4, c5, c6⟩ := O
  obtain ⟨e1, e2, e3⟩ := h1 c c2
  exact ⟨c, c1, e1, e2 c3, c4, by rw [e3]; exact c5, c6⟩
theorem R1.cg {A : Nat → Nat} {h g : hS} {r r' k k' : Nat} {x : ChT} (R : R1 A h r k x) (hi : ∀ j, j < 161 → h_i g r' (k' + j) = h_i h r (k + j)) (ho : ∀ (t : Int) Y, onB A h (h_i h) t Y → onB A g (h_i g) t Y) : R1 A g r' k' x := by
  obtain ⟨a, b, c⟩ := R
  refine ⟨by have := hi 0 (by omega); rw [Nat.add_zero, Nat.add_zero] at this; rw [this]; exact a, b, fun i hx => ?_⟩
  obtain ⟨c1, c2, c3, t, c4, c5⟩ := c i hx
  have e0 := hi (1 + 4 * i) (by omega)
  have e1 := hi (1 + 4 * i + 1) (by omega)
  have e2 := hi (1 + 4 * i + 2) (by omega)
  have e3 := hi (1 + 4 * i + 3) (by omega)
  rw [show k' + (1 + 4 * i) = k' + 1 + 4 * i by omega, show k + (1 + 4 * i) = k + 1 + 4 * i by omega] at e0
  rw [show k' + (1 + 4 * i + 1) = k' + 1 + 4 * i + 1 by omega, show k + (1 + 4 * i + 1) = k + 1 + 4 * i + 1 by omega] at e1
  rw [show k' + (1 + 4 * i + 2) = k' + 1 + 4 * i + 2 by omega, show k + (1 + 4 * i + 2) = k + 1 + 4 * i + 2 by omega] at e2
  rw [show k' + (1 + 4 * i + 3) = k' + 1 + 4 * i + 3 by omega, show k + (1 + 4 * i + 3) = k + 1 + 4 * i + 3 by omega] at e3
  exact ⟨e0.trans c1, e1.trans c2, e2.trans c3, t, e3.trans c4, fun q => ho t _ (c5 q)⟩
theorem nmd.cg {h g : hS} {r r' off off' t : Nat} (hi : ∀ j, j < 644 → h_i g r' (off' + j) = h_i h r (off + j)) : nmd g r' off' t ↔ nmd h r off t := by
  have key : ∀ (c i : Nat), c < 4 → i < 40 → (h_i g r' (off' + 161 * c) = h_i h r (off + 161 * c) ∧ h_i g r' (off' + 161 * c + 1 + 4 * i) = h_i h r (off + 161 * c + 1 + 4 * i) ∧ h_i g r' (off' + 161 * c + 1 + 4 * i + 3) = h_i h r (off + 161 * c + 1 + 4 * i + 3)) := fun c i hc hx => by
    have e0 := hi (161 * c) (by omega)
    have e1 := hi (161 * c + 1 + 4 * i) (by omega)
    have e2 := hi (161 * c + 1 + 4 * i + 3) (by omega)
    rw [show off' + (161 * c + 1 + 4 * i) = off' + 161 * c + 1 + 4 * i by omega, show off + (161 * c + 1 + 4 * i) = off + 161 * c + 1 + 4 * i by omega] at e1
    rw [show off' + (161 * c + 1 + 4 * i + 3) = off' + 161 * c + 1 + 4 * i + 3 by omega, show off + (161 * c + 1 + 4 * i + 3) = off + 161 * c + 1 + 4 * i + 3 by omega] at e2
    exact ⟨e0, e1, e2⟩
  constructor
  · rintro ⟨c, hc, i, i4, i1, i2, i3⟩
    obtain ⟨k1, k2, k3⟩ := key c i hc i4
    exact ⟨c, hc, i, i4, by rw [← k1]; exact i1, by rw [← k2]; exact i2, by rw [← k3]; exact i3⟩
  · rintro ⟨c, hc, i, i4, i1, i2, i3⟩
    obtain ⟨k1, k2, k3⟩ := key c i hc i4
    exact ⟨c, hc, i, i4, by rw [k1]; exact i1, by rw [k2]; exact i2, by rw [k3]; exact i3⟩
theorem cov.cg {h g : hS} {r0 rp r0' rp' na : Nat} (C : cov h r0 rp na) (h0 : h_i g r0' = h_i h r0) (hp : h_i g rp' = h_i h rp) : cov g r0' rp' na := by
  obtain ⟨D, d1, d2⟩ := C
  refine ⟨D, d1, fun k hk t ht q => ?_⟩
  have e0 : nmd g r0' 0 t ↔ nmd h r0 0 t := nmd.cg (fun j _ => by rw [h0])
  have e1 : ∀ o, nmd g rp' o t ↔ nmd h rp o t := fun o => nmd.cg (fun j _ => by rw [hp])
  have q' : (if k + 1 = na then nmd h r0 0 t else nmd h rp (644 * (k + 1)) t) := by
    by_cases e : k + 1 = na
    · rw [if_pos e] at q ⊢; exact e0.mp q
    · rw [if_neg e] at q ⊢; exact (e1 _).mp q
  rcases d2 k hk t ht q' with z | z
  · exact Or.inl ((e1 _).mpr z)
  · exact Or.inr z
theorem RT0.cg {A : Nat → Nat} {h g : hS} {r0 rp rx rv rs r0' rp' rx' rv' rs' : Nat} {fa fn fa' fn' : Int32} {S : StT} (R : RT0 A h r0 rp rx rv rs fa fn S) (h0 : h_i g r0' = h_i h r0) (hp : h_i g rp' = h_i h rp) (hx : h_i g rx' = h_i h rx) (hv : h_j g rv' = h_j h rv) (hs : h_i g rs' = h_i h rs) (ea : fa' = fa) (en : fn' = fn) (ho : ∀ (t : Int) Y, onB A h (h_i h) t Y → onB A g (h_i g) t Y) : RT0 A g r0' rp' rx' rv' rs' fa' fn' S := by
  obtain ⟨a1, a2, a3, a4, a5, a6, a7⟩ := R
  exact ⟨fun c hc => (a1 c hc).cg (fun j _ => by rw [h0]) ho, by rw [ea, en]; exact a2, fun k hk c hc => (a3 k hk c hc).cg (fun j _ => by rw [hp]) ho, fun k h1 h2 c hc => by rw [hp]; exact a4 k h1 h2 c hc, fun k hk => by rw [hx, hv]; exact a5 k hk, fun k hk => by rw [hs]; exact a6 k hk, a7.cg h0 hp⟩
theorem mr_of {j : Nat} (h : ∃ q ∈ mrows, q.1 = j) : ∃ k n, (j, k, n) ∈ mrows := by
  obtain ⟨q, hq, rfl⟩ := h
  exact ⟨q.2.1, q.2.2, hq⟩
theorem mr_R : ∀ j ∈ scR, ∃ q ∈ mrows, q.1 = j := by decide
theorem mr_J : ∀ j ∈ scJ, ∃ q ∈ mrows, q.1 = j := by decide
/-- cells of the reference are as they were -/
theorem RM.cg {ρ ρ' : Nat → Nat} {A : Nat → Nat} {m : Nat} {h g : hS} {F : FT} (R : RM ρ A m h F) (hx : h_x h ≤ h_x g) (hc : ∀ q, q < h_x h → ρ q = 300 → (h_k g q = h_k h q ∧ h_n g q = h_n h q ∧ h_r g q = h_r h q ∧ ρ' q = 300)) (hi : ∀ q, ρ q = 300 → q < h_x h → q ≠ m → (∀ i ∈ scR, q ≠ A i) → h_i g q = h_i h q) (hf : ∀ k, k ∉ scF → h_i g m k = h_i h m k) (hj : ∀ q, ρ q = 300 → q < h_x h → (∀ i ∈ scJ, q ≠ A i) → h_j g q = h_j h q) (hw : ∀ o w, WD ρ h o w → WD ρ' g o w) : RM ρ' A m g F := by
  obtain ⟨⟨M, ⟨l1, l2⟩, l3⟩, ⟨t1, t2⟩, f1, wd, ⟨rt, v⟩, im, tp, ft⟩ := R
  have ca : ∀ i k n, (i, k, n) ∈ mrows → h_k g (A i) = h_k h (A i) ∧ h_n g (A i) = h_n h (A i) ∧ h_r g (A i) = h_r h (A i) ∧ ρ' (A i) = 300 := fun i k n hi => hc _ (l3 _ hi).2 (l3 _ hi).1
  have cm := hc m l2 l1
  have M' : MO A m g := ⟨by rw [cm.1]; exact M.1, fun q hq => by
    have e := ca q.1 q.2.1 q.2.2 hq
    rw [cm.2.2.1, e.1, e.2.1]; exact M.2.1 q hq, M.2.2⟩
  have ia : ∀ i k n, (i, k, n) ∈ mrows → k ≠ 1 → (∀ j ∈ scR, ∃ k' n', (j, k', n') ∈ mrows ∧ i ≠ j) → h_i g (A i) = h_i h (A i) := fun i k n hi' hk hj' => hi _ (l3 _ hi').1 (l3 _ hi').2 (M.ne hi' hk) (fun j hj2 => by
    obtain ⟨k', n', q1, q2⟩ := hj' j hj2
    exact M.nn hi' q1 q2)
  have scm : ∀ j ∈ scR, ∃ k' n', (j, k', n') ∈ mrows := fun j hj => mr_of (mr_R j hj)
  have ia' : ∀ i k n, (i, k, n) ∈ mrows → k ≠ 1 → i ∉ scR → h_i g (A i) = h_i h (A i) := fun i k n hi' hk hs => ia i k n hi' hk (fun j hj2 => by
    obtain ⟨k', n', q⟩ := scm j hj2
    exact ⟨k', n', q, fun e => hs (by rw [e]; exact hj2)⟩)
  have scj : ∀ j ∈ scJ, ∃ k' n', (j, k', n') ∈ mrows := fun j hj => mr_of (mr_J j hj)
  have ja' : ∀ i k n, (i, k, n) ∈ mrows → i ∉ scJ → h_j g (A i) = h_j h (A i) := fun i k n hi' hs => hj _ (l3 _ hi').1 (l3 _ hi').2 (fun j hj2 => by
    obtain ⟨k', n', q⟩ := scj j hj2
    exact M.nn hi' q (fun e => hs (by rw [e]; exact hj2)))
  -- tables
  have c7 := ca 7 60 1000 (by decide)
  have tabs : ∀ c, ro h c 10003 → A 4 ≠ c → A 5 ≠ c → A 6 ≠ c → c ≠ m ∧ ∀ i ∈ scR, c ≠ A i := fun c hr h4 h5 h6 => by
    refine ⟨fun e => by have := hr.1; rw [e, M.1] at this; exact absurd this (by decide), fun i hi2 => ?_⟩
    simp only [List.mem_cons, List.not_mem_nil, or_false] at hi2
    have kk : ∀ i k n, (i, k, n) ∈ mrows → (k ≠ 50 ∨ n ≠ 10003) → c ≠ A i := fun i k n hq hz e => by
      have e1 := (M.2.1 _ hq).2
      simp only [] at e1
      rw [← e] at e1
      rcases hz with z | z
      · exact z (e1.1.symm.trans hr.1)
      · exact z (e1.2.symm.trans hr.2)
    rcases hi2 with e | e | e | e | e | e | e | e | e | e | e <;> subst e
    · exact Ne.symm h4
    · exact Ne.symm h5
    · exact Ne.symm h6
    · exact kk 8 53 1000 (by decide) (by decide)
    · exact kk 10 50 40 (by decide) (by decide)
    · exact kk 11 50 40 (by decide) (by decide)
    · exact kk 16 50 4 (by decide) (by decide)
    · exact kk 18 50 644 (by decide) (by decide)
    · exact kk 19 50 40 (by decide) (by decide)
    · exact kk 30 50 41 (by decide) (by decide)
    · exact kk 46 53 41 (by decide) (by decide)
  have tab2 : ∀ (t : Nat) c, t < 1000 → h_r h (A 7) t = some c → h_r g (A 7) t = some c ∧ (ro h c 10003 → ro g c 10003) ∧ h_i g c = h_i h c ∧ ρ' c = 300 := fun t c ht hr => by
    rcases t1 t ht with z | ⟨c', z1, z2, z3, z4, z5, z6, z7⟩
    · rw [z] at hr; cases hr
    · have e : c' = c := by rw [hr] at z1; injection z1 with z1; exact z1.symm
      subst e
      obtain ⟨q1, q2, q3, q4⟩ := hc c' z4 z3
      obtain ⟨y1, y2⟩ := tabs c' z2 z5 z6 z7
      exact ⟨by rw [c7.2.2.1]; exact hr, fun y => ⟨by rw [q1]; exact y.1, by rw [q2]; exact y.2⟩, hi c' z3 z4 y1 y2, q4⟩
  have ho : ∀ (t : Int) Y, onB A h (h_i h) t Y → onB A g (h_i g) t Y := fun t Y O => by
    obtain ⟨c, c1, _⟩ := id O
    exact O.cg (fun c hr => by obtain ⟨q1, q2, q3, q4⟩ := tab2 t.toNat c (by omega) hr; exact ⟨q1, q2, q3⟩)
  refine ⟨⟨M', ⟨cm.2.2.2, by omega⟩, fun q hq => ⟨(ca q.1 q.2.1 q.2.2 hq).2.2.2, by have := (l3 q hq).2; omega⟩⟩, ⟨fun t ht => ?_, fun t t' c ht ht' e1 e2 => ?_⟩, ⟨by rw [hf 13 (by decide)]; exact f1.1, by rw [hf 14 (by decide)]; exact f1.2⟩, fun k hk => ?_, ⟨rt.cg (ia' 2 50 644 (by decide) (by decide) (by decide)) (ia' 42 50 25760 (by decide) (by decide) (by decide)) (ia' 44 50 8 (by decide) (by decide) (by decide)) (ja' 45 51 8 (by decide) (by decide)) (ia' 3 50 3 (by decide) (by decide) (by decide)) (hf 41 (by decide)) (hf 43 (by decide)) ho, v⟩, ?_, ⟨by rw [hf 20 (by decide)]; exact tp.1, tp.2.1, fun i hq => by rw [ia' 17 50 600 (by decide) (by decide) (by decide)]; exact tp.2.2 i hq⟩, by rw [hf 29 (by decide)]; exact ft⟩
  · rcases t1 t ht with z | ⟨c', z1, z2, z3, z4, z5, z6, z7⟩
    · exact Or.inl (by rw [c7.2.2.1]; exact z)
    · obtain ⟨q1, q2, q3, q4⟩ := tab2 t c' ht z1
      exact Or.inr ⟨c', q1, q2 z2, q4, by omega, z5, z6, z7⟩
  · rw [c7.2.2.1] at e1 e2
    exact t2 t t' c ht ht' e1 e2
  · rw [(ca 0 61 9 (by decide)).2.2.1]; exact hw _ _ (wd k hk)
  · revert im
    cases F.2.1 with
    | none =>
      rintro ⟨i1, i2, i3⟩
      exact ⟨by rw [hf 49 (by decide)]; exact i1, fun c hc => by rw [ia' 52 50 644 (by decide) (by decide) (by decide)]; exact i2 c hc, fun k hk c hc => by rw [ia' 53 50 25760 (by decide) (by decide) (by decide)]; exact i3 k hk c hc⟩
    | some S =>
      rintro ⟨i1, i2, i3⟩
      exact ⟨by rw [hf 49 (by decide)]; exact i1, i2.cg (ia' 52 50 644 (by decide) (by decide) (by decide)) (ia' 53 50 25760 (by decide) (by decide) (by decide)) (ia' 54 50 8 (by decide) (by decide) (by decide)) (ja' 56 51 8 (by decide) (by decide)) (ia' 55 50 3 (by decide) (by decide) (by decide)) (hf 50 (by decide)) (hf 51 (by decide)) ho, i3⟩
/-- the class goes on: nothing of the reference is changed -/
theorem RM.keep {ρ ρ' : Nat → Nat} {A : Nat → Nat} {m : Nat} {h g : hS} {F : FT} {R : Nat → Prop} (X : RM ρ A m h F) (t : tr ρ h R ρ' g) (h300 : ¬ R 300) (h30 : ¬ R 30) : RM ρ' A m g F := by
  have same : ∀ q, ρ q = 300 → q < h_x h → h_i g q = h_i h q ∧ h_j g q = h_j h q ∧ h_r g q = h_r h q := fun q h1 h2 => (t.2 q h2).2.2.2 (by rw [h1]; exact h300)
  exact X.cg t.1 (fun q h1 h2 => ⟨(t.2 q h1).1, (t.2 q h1).2.1, (same q h2 h1).2.2, (t.2 q h1).2.2.1.trans h2⟩) (fun q h1 h2 _ _ => (same q h1 h2).1) (fun k _ => by rw [(same m X.1.2.1.1 X.1.2.1.2).1]) (fun q h1 h2 _ => (same q h1 h2).2.1) (fun o w W => W.keep t h30)
/-- an asker of the reference -/
theorem RM.fr {ρ : Nat → Nat} {A : Nat → Nat} {m : Nat} {h g : hS} {F : FT} (X : RM ρ A m h F) (f : frM A m h g) : RM ρ A m g F ∧ tr ρ h (rg 300) ρ g ∧ hm g = hm h := by
  obtain ⟨⟨f1, f2, f3, f4, f5⟩, f6, f7, f8⟩ := f
  have scl : ∀ i, i ∈ scR ∨ i ∈ scJ → ∃ k n, (i, k, n) ∈ mrows := fun i hi => by
    rcases hi with z | z
    · exact mr_of (mr_R i z)
    · exact mr_of (mr_J i z)
  have tt : tr ρ h (rg 300) ρ g := ⟨by rw [f4]; exact Nat.le_refl _, fun q hq => ⟨by rw [f1], by rw [f2], rfl, fun hR => ⟨f6 q (fun i hi e => hR (by
      obtain ⟨k, n, z⟩ := scl i (Or.inl hi)
      rw [e]; exact (X.1.2.2 _ z).1)) (fun e => hR (by rw [e]; exact X.1.2.1.1)), f8 q (fun i hi e => hR (by
      obtain ⟨k, n, z⟩ := scl i (Or.inr hi)
      rw [e]; exact (X.1.2.2 _ z).1)), by rw [f3]⟩⟩⟩
  refine ⟨X.cg (by rw [f4]; exact Nat.le_refl _) (fun q h1 h2 => ⟨by rw [f1], by rw [f2], by rw [f3], h2⟩) (fun q _ _ h1 h2 => f6 q h2 h1) f7 (fun q _ _ h2 => f8 q h2) (fun o w W => W.keep tt (fun z => by have : (30 : Nat) = 300 := z; omega)), tt, by unfold hm; rw [f4, f5]⟩
/-- the costs, as the askers want them -/
theorem RM.rs {ρ : Nat → Nat} {A : Nat → Nat} {m : Nat} {h : hS} {F : FT} (X : RM ρ A m h F) : MO A m h ∧ RS A m h (h_i h) F.1.1 := by
  obtain ⟨⟨M, l1, l2⟩, tb, f1, wd, ⟨rt, v⟩, im, tp, ft⟩ := X
  refine ⟨M, f1, fun c hc => ⟨⟨M.ro (i := 2) (n := 644) (by decide), (v.1 c hc).1, by omega, (rt.1 c hc).1, ⟨f1.1, by omega⟩, -1, f1.2, by omega, by omega, fun i hi hl => ?_⟩, (v.1 c hc).2.2⟩⟩
  obtain ⟨q1, q2, q3, t, q4, q5⟩ := (rt.1 c hc).2.2 i hi
  exact ⟨q1, q2, by rw [if_neg (by omega)]; exact q3, ((v.1 c hc).2.1 i hi).1, t, q4, q5⟩
/-- what an asker of the reference leaves -/
def RE (A : Nat → Nat) (m : Nat) (h : hS) {α : Type} (ans : α) (code : Int32) (r : Option (α × hS)) : Prop := ∃ g, r = some (ans, g) ∧ frM A m h g ∧ h_i g m 1 = code
theorem aEnd.e {A : Nat → Nat} {m : Nat} {h : hS} {α : Type} {ans : α} {code : Int32} {r : Option (α × hS)} (a : aEnd A m h (h_i h) ans code r) : RE A m h ans code r := by
  obtain ⟨G, e, f, k⟩ := a
  exact ⟨w_i h G, e, f.m, k⟩
