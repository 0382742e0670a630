/-! THE CLASS'S OBJECT: fixed cells by numbers (Q), their kinds, labels, lengths; references between them -/
abbrev ChT := Nat × (Nat → Int × Int × Int) × (Nat → Nat → Int)
abbrev AcT := Nat → Nat × ChT
/-- costs; acts that are kept; what is noted; how many were refused -/
abbrev StT := Cs × Nat × AcT × Nat × (Nat → Int) × (Nat → Int64) × (Nat → Int32)
def FX (L : List (Nat × Nat × Nat × Nat)) (ρ : Nat → Nat) (h : hS) (Q : Nat → Nat) : Prop := ∀ e ∈ L, h_k h (Q e.1) = e.2.1 ∧ ρ (Q e.1) = e.2.2.1 ∧ h_n h (Q e.1) = e.2.2.2 ∧ Q e.1 < h_x h
theorem FX.keep {L : List (Nat × Nat × Nat × Nat)} {ρ ρ' : Nat → Nat} {h g : hS} {Q : Nat → Nat} {R : Nat → Prop} (F : FX L ρ h Q) (t : tr ρ h R ρ' g) : FX L ρ' g Q := fun e he => by
  obtain ⟨q1, q2, q3, q4⟩ := F e he
  obtain ⟨a1, a2, a3, _⟩ := t.2 _ q4
  have := t.1
  exact ⟨a1.trans q1, a3.trans q2, a2.trans q3, by omega⟩
def RF (L : List (Nat × Nat × Nat)) (h : hS) (Q : Nat → Nat) : Prop := ∀ e ∈ L, h_r h (Q e.1) e.2.1 = some (Q e.2.2)
theorem RF.keep {K : List (Nat × Nat × Nat × Nat)} {L : List (Nat × Nat × Nat)} {ρ ρ' : Nat → Nat} {h g : hS} {Q : Nat → Nat} {R : Nat → Prop} (F : RF L h Q) (X : FX K ρ h Q) (t : tr ρ h R ρ' g) (hL : ∀ e ∈ L, ∃ k ∈ K, k.1 = e.1 ∧ ¬ R k.2.2.1) : RF L g Q := fun e he => by
  obtain ⟨k, hk, h1, h2⟩ := hL e he
  obtain ⟨q1, q2, q3, q4⟩ := X k hk
  rw [h1] at q1 q2 q3 q4
  obtain ⟨a1, a2, a3, a4⟩ := t.2 _ q4
  rw [(a4 (by rw [q2]; exact h2)).2.2]
  exact F e he
def fixS (ls : Nat) : List (Nat × Nat × Nat × Nat) := [(16, 8, ls, 0), (32, 62, ls, 4), (33, 50, ls, 40), (34, 62, ls, 40), (35, 50, ls, 8), (36, 51, ls, 8), (37, 50, ls, 3), (40, 3, ls + 1, 0), (41, 3, ls + 2, 0), (42, 3, ls + 3, 0), (43, 3, ls + 4, 0)]
def refS : List (Nat × Nat × Nat) := [(16, 0, 32), (16, 1, 33), (16, 2, 34), (16, 4, 35), (16, 5, 36), (16, 7, 37), (32, 0, 40), (32, 1, 41), (32, 2, 42), (32, 3, 43)]
/-- a chain that can be told, none of its steps too much -/
def vC (c : ChT) : Prop := c.1 ≤ 40 ∧ (∀ i, i < c.1 → okArg (c.2.1 i).1 (c.2.1 i).2.1 (c.2.1 i).2.2 ∧ ((c.2.1 i).1 = 8 → zInv (c.2.2 i) ∧ 0 ≤ (c.2.1 i).2.1 ∧ (c.2.1 i).2.1 ≤ 3)) ∧ ∀ i, i < c.1 → okS c.2.1 c.2.2 (-1) i
def vS (S : StT) : Prop := (∀ c, c < 4 → vC (S.1 c)) ∧ S.2.1 ≤ 40 ∧ (∀ k, k < S.2.1 → (S.2.2.1 k).1 < 4 ∧ vC (S.2.2.1 k).2) ∧ S.2.2.2.1 ≤ 8 ∧ ∀ k, k < S.2.2.2.1 → -100000 ≤ S.2.2.2.2.1 k ∧ S.2.2.2.2.1 k ≤ 100000
/-- the place k of the row of acts: no chain yet, or one of its own label -/
def AS (ρ : Nat → Nat) (h : hS) (q l na k : Nat) (E : AcT) : Prop := (h_r h q k = none ∧ na ≤ k) ∨ ∃ a n p Y, h_r h q k = some a ∧ CH ρ l h a n p Y ∧ (k < na → n = (E k).2.1 ∧ p = (E k).2.2.1 ∧ Y = (E k).2.2.2)
def SX (ρ : Nat → Nat) (h : hS) (Q : Nat → Nat) (ls : Nat) (S : StT) : Prop := (FX (fixS ls) ρ h Q ∧ RF refS h Q ∧ (Q 33 ≠ Q 35 ∧ Q 33 ≠ Q 37 ∧ Q 35 ≠ Q 37 ∧ Q 32 ≠ Q 34)) ∧ (h_i h (Q 16) 3 = iI S.2.1 ∧ h_i h (Q 16) 6 = iI S.2.2.2.1) ∧ (∀ c, c < 4 → CH ρ (ls + 1 + c) h (Q (40 + c)) (S.1 c).1 (S.1 c).2.1 (S.1 c).2.2) ∧ (∃ lab : Nat → Nat, (∀ j k, j < 40 → k < 40 → lab j = lab k → j = k) ∧ (∀ j, j < 40 → ls + 10 ≤ lab j ∧ lab j < ls + 50) ∧ ∀ k, k < 40 → AS ρ h (Q 34) (lab k) S.2.1 k S.2.2.1) ∧ (∀ k, k < S.2.1 → h_i h (Q 33) k = iI (S.2.2.1 k).1) ∧ (∀ k, k < S.2.2.2.1 → h_i h (Q 35) k = iI (S.2.2.2.2.1 k) ∧ h_j h (Q 36) k = S.2.2.2.2.2.1 k) ∧ ∀ k, k < 3 → h_i h (Q 37) k = S.2.2.2.2.2.2 k
theorem FX.same {L : List (Nat × Nat × Nat × Nat)} {ρ ρ' : Nat → Nat} {h g : hS} {Q : Nat → Nat} {R : Nat → Prop} (F : FX L ρ h Q) (t : tr ρ h R ρ' g) {e : Nat × Nat × Nat × Nat} (he : e ∈ L) (hR : ¬ R e.2.2.1) : h_i g (Q e.1) = h_i h (Q e.1) ∧ h_j g (Q e.1) = h_j h (Q e.1) ∧ h_r g (Q e.1) = h_r h (Q e.1) := by
  obtain ⟨q1, q2, q3, q4⟩ := F e he
  obtain ⟨a1, a2, a3, a4⟩ := t.2 _ q4
  exact a4 (by rw [q2]; exact hR)
theorem AS.keep {ρ ρ' : Nat → Nat} {h g : hS} {R : Nat → Prop} {q l na k : Nat} {E : AcT} (A : AS ρ h q l na k E) (t : tr ρ h R ρ' g) (hr : h_r g q = h_r h q) (h9 : ¬ R 9) (hl : ¬ R l) : AS ρ' g q l na k E := by
  rcases A with ⟨a1, a2⟩ | ⟨a, n, p, Y, a1, a2, a3⟩
  · exact Or.inl ⟨by rw [hr]; exact a1, a2⟩
  · exact Or.inr ⟨a, n, p, Y, by rw [hr]; exact a1, a2.keep t h9 hl, a3⟩
theorem fixS_lab (ls : Nat) : ∀ e ∈ fixS ls, ls ≤ e.2.2.1 ∧ e.2.2.1 < ls + 50 := by
  intro e he
  simp only [fixS, List.mem_cons, List.not_mem_nil, or_false] at he
  rcases he with he | he | he | he | he | he | he | he | he | he | he <;> subst he <;> simp
theorem SX.keep {ρ ρ' : Nat → Nat} {h g : hS} {R : Nat → Prop} {Q : Nat → Nat} {ls : Nat} {S : StT} (X : SX ρ h Q ls S) (t : tr ρ h R ρ' g) (h9 : ¬ R 9) (hR : ∀ q, ls ≤ q → q < ls + 50 → ¬ R q) : SX ρ' g Q ls S := by
  obtain ⟨⟨f1, f2, f3⟩, q1, q2, ⟨lab, l1, l2, l3⟩, q4, q5, q6⟩ := X
  have sm : ∀ e ∈ fixS ls, h_i g (Q e.1) = h_i h (Q e.1) ∧ h_j g (Q e.1) = h_j h (Q e.1) ∧ h_r g (Q e.1) = h_r h (Q e.1) := fun e he => f1.same t he (hR _ (fixS_lab ls e he).1 (fixS_lab ls e he).2)
  have s16 := sm (16, 8, ls, 0) (by simp [fixS])
  have s33 := sm (33, 50, ls, 40) (by simp [fixS])
  have s34 := sm (34, 62, ls, 40) (by simp [fixS])
  have s35 := sm (35, 50, ls, 8) (by simp [fixS])
  have s36 := sm (36, 51, ls, 8) (by simp [fixS])
  have s37 := sm (37, 50, ls, 3) (by simp [fixS])
  simp only [] at s16 s33 s34 s35 s36 s37
  have hself : ¬ R ls := hR ls (by omega) (by omega)
  refine ⟨⟨f1.keep t, f2.keep f1 t (fun e he => ?_), f3⟩, by rw [s16.1]; exact q1, fun c hc => (q2 c hc).keep t h9 (hR _ (by omega) (by omega)), ⟨lab, l1, l2, fun k hk => (l3 k hk).keep t s34.2.2 h9 (hR _ (by have := l2 k hk; omega) (by have := l2 k hk; omega))⟩, fun k hk => by rw [s33.1]; exact q4 k hk, fun k hk => by rw [s35.1, s36.2.1]; exact q5 k hk, fun k hk => by rw [s37.1]; exact q6 k hk⟩
  simp only [refS, List.mem_cons, List.not_mem_nil, or_false] at he
  rcases he with he | he | he | he | he | he | he | he | he | he <;> subst he
  · exact ⟨(16, 8, ls, 0), by simp [fixS], rfl, hself⟩
  · exact ⟨(16, 8, ls, 0), by simp [fixS], rfl, hself⟩
  · exact ⟨(16, 8, ls, 0), by simp [fixS], rfl, hself⟩
  · exact ⟨(16, 8, ls, 0), by simp [fixS], rfl, hself⟩
  · exact ⟨(16, 8, ls, 0), by simp [fixS], rfl, hself⟩
  · exact ⟨(16, 8, ls, 0), by simp [fixS], rfl, hself⟩
  · exact ⟨(32, 62, ls, 4), by simp [fixS], rfl, hself⟩
  · exact ⟨(32, 62, ls, 4), by simp [fixS], rfl, hself⟩
  · exact ⟨(32, 62, ls, 4), by simp [fixS], rfl, hself⟩
  · exact ⟨(32, 62, ls, 4), by simp [fixS], rfl, hself⟩
/-- now; an image; the tape; the place of the latest fault -/
abbrev FT := StT × Option StT × (Nat × (Nat → Int)) × Int
def fixK : List (Nat × Nat × Nat × Nat) := [(0, 13, 17, 0), (3, 6, 18, 0), (4, 2, 1, 0), (5, 7, 11, 0), (6, 11, 12, 0), (7, 10, 13, 0), (9, 12, 14, 0), (10, 12, 15, 0), (11, 51, 16, 41), (12, 50, 16, 41), (13, 63, 6, 4), (14, 63, 8, 4), (15, 3, 19, 0), (28, 50, 18, 40), (29, 50, 18, 40), (30, 50, 18, 40), (31, 50, 18, 40)]
def refK : List (Nat × Nat × Nat) := [(0, 3, 3), (0, 4, 4), (0, 5, 5), (0, 6, 6), (0, 7, 7), (0, 9, 9), (0, 10, 10), (0, 11, 11), (0, 12, 12), (0, 13, 13), (0, 14, 14), (0, 15, 15), (0, 16, 16), (13, 0, 20), (13, 1, 21), (13, 2, 22), (13, 3, 23), (3, 0, 28), (3, 1, 29), (3, 2, 30), (3, 3, 31)]
/-- the tape: a row of bytes -/
def TP (ρ : Nat → Nat) (h : hS) (x : Nat) (T : Nat × (Nat → Int)) : Prop := h_i h x 1 = iI T.1 ∧ ∃ tp, h_r h x 0 = some tp ∧ h_k h tp = 52 ∧ ρ tp = 17 ∧ tp < h_x h ∧ (h_n h tp = 0 ∨ h_n h tp = 600) ∧ T.1 ≤ h_n h tp ∧ ∀ i, i < T.1 → (0 ≤ T.2 i ∧ T.2 i ≤ 255) ∧ h_i h tp i = vp_nar .byte (iI (T.2 i))
def IM (ρ : Nat → Nat) (h : hS) (x : Nat) (I : Option StT) : Prop := match I with
  | none => h_r h x 17 = none
  | some S => ∃ P, h_r h x 17 = some (P 16) ∧ SX ρ h P 200 S ∧ vS S
def KS (ρ : Nat → Nat) (h : hS) (Q : Nat → Nat) (F : FT) (ks : List Nat) : Prop := (FX fixK ρ h Q ∧ RF refK h Q ∧ (Q 28 ≠ Q 29 ∧ Q 28 ≠ Q 30 ∧ Q 28 ≠ Q 31 ∧ Q 29 ≠ Q 30 ∧ Q 29 ≠ Q 31 ∧ Q 30 ≠ Q 31)) ∧ (BX ρ h (Q 4) (Q 24) (Q 25) ∧ SH ρ h (Q 5) ks ∧ TO ρ h (Q 6) (Q 26) (Q 27) ∧ ∃ n p Y, CH ρ 19 h (Q 15) n p Y) ∧ (∀ c, c < 4 → CZ ρ (20 + c) h (Q (20 + c)) (zC F.1.1 c)) ∧ (SX ρ h Q 100 F.1 ∧ vS F.1) ∧ IM ρ h (Q 0) F.2.1 ∧ TP ρ h (Q 0) F.2.2.1 ∧ h_i h (Q 0) 2 = iI F.2.2.2
/-- labels of what an asker may write -/
def RA : Nat → Prop := fun q => RB q ∨ q = 8 ∨ (12 ≤ q ∧ q ≤ 16)
theorem RF_K {ρ ρ' : Nat → Nat} {h g : hS} {Q : Nat → Nat} {R : Nat → Prop} (X : FX fixK ρ h Q) (F : RF refK h Q) (t : tr ρ h R ρ' g) (h17 : ¬ R 17) (h6 : ¬ R 6) (h18 : ¬ R 18) : RF refK g Q := F.keep X t (fun e he => by
  simp only [refK, List.mem_cons, List.not_mem_nil, or_false] at he
  rcases he with he | he | he | he | he | he | he | he | he | he | he | he | he | he | he | he | he | he | he | he | he <;> subst he
  all_goals first | exact ⟨(0, 13, 17, 0), by decide, rfl, h17⟩ | exact ⟨(13, 63, 6, 4), by decide, rfl, h6⟩ | exact ⟨(3, 6, 18, 0), by decide, rfl, h18⟩)
theorem TP.keep {ρ ρ' : Nat → Nat} {h g : hS} {R : Nat → Prop} {x : Nat} {T : Nat × (Nat → Int)} (P : TP ρ h x T) (t : tr ρ h R ρ' g) (hx : ρ x = 17 ∧ x < h_x h) (h17 : ¬ R 17) : TP ρ' g x T := by
  obtain ⟨q1, tp, q2, q3, q4, q5, q6, q7, q8⟩ := P
  obtain ⟨a1, a2, a3, a4⟩ := t.2 x hx.2
  obtain ⟨b1, b2, b3, b4⟩ := t.2 tp q5
  obtain ⟨a5, a6, a7⟩ := a4 (by rw [hx.1]; exact h17)
  obtain ⟨b5, b6, b7⟩ := b4 (by rw [q4]; exact h17)
  have := t.1
  exact ⟨by rw [a5]; exact q1, tp, by rw [a7]; exact q2, b1.trans q3, b3.trans q4, by omega, by rw [b2]; exact q6, by rw [b2]; exact q7, fun i hi => by rw [b5]; exact q8 i hi⟩
theorem IM.keep {ρ ρ' : Nat → Nat} {h g : hS} {R : Nat → Prop} {x : Nat} {I : Option StT} (P : IM ρ h x I) (t : tr ρ h R ρ' g) (hx : ρ x = 17 ∧ x < h_x h) (h17 : ¬ R 17) (h9 : ¬ R 9) (hR : ∀ q, 200 ≤ q → q < 250 → ¬ R q) : IM ρ' g x I := by
  obtain ⟨a1, a2, a3, a4⟩ := t.2 x hx.2
  obtain ⟨a5, a6, a7⟩ := a4 (by rw [hx.1]; exact h17)
  cases I with
  | none => show h_r g x 17 = none; rw [a7]; exact P
  | some S =>
    obtain ⟨Q, p1, p2, p3⟩ := P
    exact ⟨Q, by rw [a7]; exact p1, p2.keep t h9 hR, p3⟩
section
variable {ρ : Nat → Nat} {h : hS} {Q : Nat → Nat} {F : FT} {ks : List Nat}
theorem KS.x (K : KS ρ h Q F ks) : h_k h (Q 0) = 12 + 1 ∧ ρ (Q 0) = 17 ∧ Q 0 < h_x h := by
  obtain ⟨q1, q2, q3, q4⟩ := K.1.1 (0, 13, 17, 0) (by decide)
  exact ⟨q1, q2, q4⟩
theorem KS.ask (K : KS ρ h Q F ks) {ρ' : Nat → Nat} {g : hS} (t : tr ρ h RA ρ' g) (hb : BX ρ' g (Q 4) (Q 24) (Q 25)) (ht : TO ρ' g (Q 6) (Q 26) (Q 27)) : KS ρ' g Q F ks := by
  have hx := K.x.2
  obtain ⟨⟨f1, f2, f3⟩, ⟨b1, b2, b3, n, p, Y, b4⟩, c1, ⟨d1, d2⟩, e1, e2, e3⟩ := K
  have hn : ∀ q, ¬ (1 ≤ q ∧ q ≤ 5) → q ≠ 8 → ¬ (12 ≤ q ∧ q ≤ 16) → ¬ RA q := fun q h1 h2 h3 z => by
    unfold RA RB at z; omega
  have s0 := f1.same t (e := (0, 13, 17, 0)) (by decide) (hn _ (by decide) (by decide) (by decide))
  exact ⟨⟨f1.keep t, RF_K f1 f2 t (hn _ (by omega) (by omega) (by omega)) (hn _ (by omega) (by omega) (by omega)) (hn _ (by omega) (by omega) (by omega)), f3⟩, ⟨hb, b2.keep t (hn _ (by omega) (by omega) (by omega)) (hn _ (by omega) (by omega) (by omega)), ht, n, p, Y, b4.keep t (hn _ (by omega) (by omega) (by omega)) (hn _ (by omega) (by omega) (by omega))⟩, fun c hc => (c1 c hc).keep t (hn _ (by omega) (by omega) (by omega)), ⟨d1.keep t (hn _ (by omega) (by omega) (by omega)) (fun q h1 h2 => hn _ (by omega) (by omega) (by omega)), d2⟩, e1.keep t hx (hn _ (by omega) (by omega) (by omega)) (hn _ (by omega) (by omega) (by omega)) (fun q h1 h2 => hn _ (by omega) (by omega) (by omega)), e2.keep t hx (hn _ (by omega) (by omega) (by omega)), by have := s0.1; simp only [] at this; rw [this]; exact e3⟩
theorem RA_B (q : Nat) (z : RB q) : RA q := Or.inl z
/-- an asker that writes nothing of the bench or the trail -/
theorem KS.ask0 (K : KS ρ h Q F ks) {ρ' : Nat → Nat} {g : hS} {R : Nat → Prop} (t : tr ρ h R ρ' g) (hR : ∀ q, R q → RA q ∧ ¬ RB q ∧ q ≠ 12) : KS ρ' g Q F ks ∧ brs g (Q 4) = brs h (Q 4) := by
  obtain ⟨b1, b2⟩ := K.2.1.1.keep t (fun q hq z => (hR q z).2.1 hq)
  exact ⟨K.ask (t.mono (fun q z => (hR q z).1)) b1 (K.2.1.2.2.1.keep t (fun z => (hR 12 z).2.2 rfl)).1, b2⟩
/-- the bench and the trail are written -/
theorem KS.askB (K : KS ρ h Q F ks) {ρ' : Nat → Nat} {g : hS} (t : tr ρ h RB ρ' g) (hb : BX ρ' g (Q 4) (Q 24) (Q 25)) : KS ρ' g Q F ks := K.ask (t.mono RA_B) hb (K.2.1.2.2.1.keep t (fun z => by unfold RB at z; omega)).1
theorem tr_th {R : Nat → Prop} : tr ρ h R ρ (th h) := ⟨Nat.le_succ _, fun _ _ => ⟨rfl, rfl, rfl, fun _ => ⟨rfl, rfl, rfl⟩⟩⟩
theorem hm_th : hm (th h) = hm h + 19 := by show 13 * (h_x h + 1) + (h_s h + 6) = 13 * h_x h + h_s h + 19; omega
theorem KS.thw (K : KS ρ h Q F ks) : KS ρ (th h) Q F ks ∧ brs (th h) (Q 4) = brs h (Q 4) := K.ask0 (R := fun _ => False) tr_th (fun q z => z.elim)
end
