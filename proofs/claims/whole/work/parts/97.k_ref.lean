/-! THE REFERENCE IS WRITTEN: its own cells, no table -/
def chM (A : Nat → Nat) (m : Nat) (h g : hS) : Prop := (h_k g = h_k h ∧ h_n g = h_n h ∧ h_r g = h_r h ∧ h_x g = h_x h ∧ h_s g = h_s h) ∧ ∀ q, q ≠ m → (∀ e ∈ mrows, q ≠ A e.1) → h_i g q = h_i h q ∧ h_j g q = h_j h q
section
variable {ρ : Nat → Nat} {A : Nat → Nat} {m : Nat} {h g u : hS} {F F' : FT}
theorem chM.rf : chM A m h h := ⟨⟨rfl, rfl, rfl, rfl, rfl⟩, fun _ _ _ => ⟨rfl, rfl⟩⟩
theorem chM.trans (a : chM A m h g) (b : chM A m g u) : chM A m h u := by
  obtain ⟨⟨a1, a2, a3, a4, a5⟩, a6⟩ := a
  obtain ⟨⟨b1, b2, b3, b4, b5⟩, b6⟩ := b
  exact ⟨⟨b1.trans a1, b2.trans a2, b3.trans a3, b4.trans a4, b5.trans a5⟩, fun q h1 h2 => ⟨(b6 q h1 h2).1.trans (a6 q h1 h2).1, (b6 q h1 h2).2.trans (a6 q h1 h2).2⟩⟩
theorem chM.f (a : chM A m h g) (k : Nat) (v : Int32) : chM A m h (s_i g m k v) := a.trans ⟨⟨rfl, rfl, rfl, rfl, rfl⟩, fun q h1 _ => ⟨by rw [h_i_si, if_neg h1], rfl⟩⟩
theorem chM.r (a : chM A m h g) {i : Nat} (hi : ∃ e ∈ mrows, e.1 = i) (k : Nat) (v : Int32) : chM A m h (s_i g (A i) k v) := a.trans ⟨⟨rfl, rfl, rfl, rfl, rfl⟩, fun q _ h2 => ⟨by obtain ⟨e, he, rfl⟩ := hi; rw [h_i_si, if_neg (h2 e he)], rfl⟩⟩
theorem chM.w (a : chM A m h g) {i : Nat} (hi : ∃ e ∈ mrows, e.1 = i) (T : Nat → Int32) : chM A m h (s_w g (A i) T) := a.trans ⟨⟨rfl, rfl, rfl, rfl, rfl⟩, fun q _ h2 => ⟨by obtain ⟨e, he, rfl⟩ := hi; rw [h_i_sw, if_neg (h2 e he)], rfl⟩⟩
theorem chM.j (a : chM A m h g) {i : Nat} (hi : ∃ e ∈ mrows, e.1 = i) (k : Nat) (v : Int64) : chM A m h (s_j g (A i) k v) := a.trans ⟨⟨rfl, rfl, rfl, rfl, rfl⟩, fun q _ h2 => ⟨rfl, by obtain ⟨e, he, rfl⟩ := hi; rw [h_j_sj, if_neg (h2 e he)]⟩⟩
theorem frM.c (f : frM A m h g) : chM A m h g := by
  obtain ⟨f1, f2, f3, f4⟩ := f
  refine ⟨f1, fun q h1 h2 => ⟨f2 q (fun i hi => ?_) h1, f4 q (fun i hi => ?_)⟩⟩
  · obtain ⟨e, he, rfl⟩ := mr_R i hi; exact h2 e he
  · obtain ⟨e, he, rfl⟩ := mr_J i hi; exact h2 e he
/-- a table is none of the reference's own rows -/
theorem RM.tne (X : RM ρ A m h F) {t c : Nat} (ht : t < 1000) (hr : h_r h (A 7) t = some c) : c ≠ m ∧ (∀ e ∈ mrows, c ≠ A e.1) ∧ ro h c 10003 ∧ ρ c = 300 ∧ c < h_x h := by
  rcases X.2.1.1 t ht with z | ⟨c', z1, z2, z3, z4, z5, z6, z7⟩
  · rw [z] at hr; cases hr
  · have e : c' = c := by rw [hr] at z1; injection z1 with z1; exact z1.symm
    subst e
    have M := X.1.1
    refine ⟨fun e => by have := z2.1; rw [e, M.1] at this; exact absurd this (by decide), fun e he => ?_, z2, z3, z4⟩
    by_cases h4 : e.1 = 4
    · rw [h4]; exact Ne.symm z5
    by_cases h5 : e.1 = 5
    · rw [h5]; exact Ne.symm z6
    by_cases h6 : e.1 = 6
    · rw [h6]; exact Ne.symm z7
    intro e2
    have e1 := (M.2.1 _ he).2
    rw [← e2] at e1
    have key : ∀ e ∈ mrows, e.1 = 4 ∨ e.1 = 5 ∨ e.1 = 6 ∨ e.2.1 ≠ 50 ∨ e.2.2 ≠ 10003 := by decide
    rcases key e he with y | y | y | y | y
    · exact h4 y
    · exact h5 y
    · exact h6 y
    · exact y (e1.1.symm.trans z2.1)
    · exact y (e1.2.symm.trans z2.2)
theorem RM.ch (X : RM ρ A m h F) (c : chM A m h g) : tr ρ h (rg 300) ρ g ∧ MO A m g ∧ TB ρ A g ∧ (∀ (t : Int) Y, onB A h (h_i h) t Y → onB A g (h_i g) t Y) ∧ hm g = hm h := by
  obtain ⟨⟨f1, f2, f3, f4, f5⟩, f6⟩ := id c
  refine ⟨⟨by rw [f4]; exact Nat.le_refl _, fun q hq => ⟨by rw [f1], by rw [f2], rfl, fun hR => ?_⟩⟩, X.1.1.rf f1 f2 f3, ⟨fun t ht => ?_, fun t t' c ht ht' e1 e2 => ?_⟩, fun t Y O => ?_, by unfold hm; rw [f4, f5]⟩
  · have := f6 q (fun e => hR (by rw [e]; exact X.1.2.1.1)) (fun e he e2 => hR (by rw [e2]; exact (X.1.2.2 e he).1))
    exact ⟨this.1, this.2, by rw [f3]⟩
  · rw [f3, f4]
    rcases X.2.1.1 t ht with z | ⟨c', z1, z2, z3, z4⟩
    · exact Or.inl z
    · exact Or.inr ⟨c', z1, ⟨by rw [f1]; exact z2.1, by rw [f2]; exact z2.2⟩, z3, z4⟩
  · rw [f3] at e1 e2
    exact X.2.1.2 t t' c ht ht' e1 e2
  · obtain ⟨c0, c1, _⟩ := id O
    refine O.cg (fun c hr => ?_)
    obtain ⟨n1, n2, _⟩ := X.tne (t := t.toNat) (by omega) hr
    exact ⟨by rw [f3]; exact hr, fun y => ⟨by rw [f1]; exact y.1, by rw [f2]; exact y.2⟩, (f6 c n1 n2).1⟩
/-- what an image is in the reference's rows -/
def RI (A : Nat → Nat) (m : Nat) (h : hS) (I : Option StT) : Prop := match I with
  | none => h_i h m 49 = 0 ∧ (∀ c, c < 4 → h_i h (A 52) (161 * c) = 0) ∧ ∀ k, k < 40 → ∀ c, c < 4 → h_i h (A 53) (644 * k + 161 * c) = 0
  | some S => h_i h m 49 = 1 ∧ RT0 A h (A 52) (A 53) (A 54) (A 56) (A 55) (h_i h m 50) (h_i h m 51) S ∧ vS S
theorem RM.ri (X : RM ρ A m h F) : RI A m h F.2.1 := X.2.2.2.2.2.1
theorem RI.cg {I : Option StT} (X : RI A m h I) (h52 : h_i g (A 52) = h_i h (A 52)) (h53 : h_i g (A 53) = h_i h (A 53)) (h54 : h_i g (A 54) = h_i h (A 54)) (h56 : h_j g (A 56) = h_j h (A 56)) (h55 : h_i g (A 55) = h_i h (A 55)) (f49 : h_i g m 49 = h_i h m 49) (f50 : h_i g m 50 = h_i h m 50) (f51 : h_i g m 51 = h_i h m 51) (ho : ∀ (t : Int) Y, onB A h (h_i h) t Y → onB A g (h_i g) t Y) : RI A m g I := by
  cases I with
  | none =>
    obtain ⟨i1, i2, i3⟩ := X
    exact ⟨by rw [f49]; exact i1, fun c hc => by rw [h52]; exact i2 c hc, fun k hk c hc => by rw [h53]; exact i3 k hk c hc⟩
  | some S =>
    obtain ⟨i1, i2, i3⟩ := X
    exact ⟨by rw [f49]; exact i1, i2.cg h52 h53 h54 h56 h55 f50 f51 ho, i3⟩
theorem RM.put (X : RM ρ A m h F) (c : chM A m h g) (f13 : h_i g m 13 = h_i h m 13 ∧ h_i g m 14 = h_i h m 14) (hrt : RT0 A g (A 2) (A 42) (A 44) (A 45) (A 3) (h_i g m 41) (h_i g m 43) F'.1 ∧ vS F'.1) (him : RI A m g F'.2.1) (htp : h_i g m 20 = iI F'.2.2.1.1 ∧ F'.2.2.1.1 ≤ 600 ∧ ∀ i, i < F'.2.2.1.1 → h_i g (A 17) i = iI (F'.2.2.1.2 i)) (hft : h_i g m 29 = iI F'.2.2.2) : RM ρ A m g F' := by
  obtain ⟨t, M, tb, ho, _⟩ := X.ch c
  refine ⟨⟨M, ⟨X.1.2.1.1, by rw [c.1.2.2.2.1]; exact X.1.2.1.2⟩, fun q hq => ⟨(X.1.2.2 q hq).1, by rw [c.1.2.2.2.1]; exact (X.1.2.2 q hq).2⟩⟩, tb, ⟨f13.1.trans X.2.2.1.1, f13.2.trans X.2.2.1.2⟩, fun k hk => ?_, hrt, him, htp, hft⟩
  rw [c.1.2.2.1]
  exact (X.2.2.2.1 k hk).keep t (fun z => by have : (30 : Nat) = 300 := z; omega)
/-- the room that tables may take yet -/
def pTb (A : Nat → Nat) (h : hS) : Nat := sumN (fun t => if h_r h (A 7) t = none then 10016 else 0) 564
/-- what an act of the reference leaves -/
def RX (ρ : Nat → Nat) (A : Nat → Nat) (m : Nat) (h : hS) {α : Type} (ans : α) (F' : FT) (code : Int32) (r : Option (α × hS)) : Prop := ∃ ρ' g, r = some (ans, g) ∧ RM ρ' A m g F' ∧ tr ρ h (rg 300) ρ' g ∧ hm g + pTb A g ≤ hm h + pTb A h ∧ h_i g m 1 = code
theorem RM.x (X : RM ρ A m h F) (c : chM A m h g) (Y : RM ρ A m g F') {α : Type} {ans : α} {code : Int32} {r : Option (α × hS)} (e : r = some (ans, g)) (k : h_i g m 1 = code) : RX ρ A m h ans F' code r := by
  obtain ⟨t, _, _, _, e1⟩ := X.ch c
  refine ⟨ρ, g, e, Y, t, ?_, k⟩
  unfold pTb
  rw [e1, c.1.2.2.1]
  exact Nat.le_refl _
theorem m_na (i : Nat) {k n : Nat} (h : (i, k, n) ∈ mrows) : ∃ e ∈ mrows, e.1 = i := ⟨_, h, rfl⟩
theorem RM.mne (X : RM ρ A m h F) {i k n : Nat} (hi : (i, k, n) ∈ mrows) (hk : k ≠ 1) : A i ≠ m := X.1.1.ne hi hk
theorem RM.nn (X : RM ρ A m h F) {i k n j k' n' : Nat} (hi : (i, k, n) ∈ mrows) (hj : (j, k', n') ∈ mrows) (hij : i ≠ j) : A i ≠ A j := X.1.1.nn hi hj hij
/-- one refusal more -/
theorem refM_is (N : Nat) (X : RM ρ A m h F) {k : Nat} (hk : k < 3) : ∃ g, f_M_refuse N h m (iI k) = some (-1, g) ∧ chM A m h g ∧ RM ρ A m g (rfS F.1 k, F.2) ∧ h_i g m = h_i h m := by
  have M := X.1.1
  have n3m := X.mne (i := 3) (k := 50) (n := 3) (by decide) (by decide)
  have c : chM A m h (s_i h (A 3) k (h_i h (A 3) k + 1)) := chM.rf.r (m_na 3 (k := 50) (n := 3) (by decide)) _ _
  have ho := (X.ch c).2.2.2.1
  have ii : ∀ i k' n', (i, k', n') ∈ mrows → i ≠ 3 → h_i (s_i h (A 3) k (h_i h (A 3) k + 1)) (A i) = h_i h (A i) := fun i k' n' hi hne => by rw [h_i_si, if_neg (X.nn hi (by decide : (3, 50, 3) ∈ mrows) hne)]
  have im : h_i (s_i h (A 3) k (h_i h (A 3) k + 1)) m = h_i h m := by rw [h_i_si, if_neg (Ne.symm n3m)]
  obtain ⟨rt, v⟩ := X.2.2.2.2.1
  obtain ⟨a1, a2, a3, a4, a5, a6, a7⟩ := rt
  refine ⟨_, ?_, c, X.put c ⟨by rw [im], by rw [im]⟩ ⟨⟨fun d hd => (a1 d hd).cg (fun j _ => by rw [ii 2 50 644 (by decide) (by decide)]) ho, by rw [im]; exact a2, fun d hd e he => (a3 d hd e he).cg (fun j _ => by rw [ii 42 50 25760 (by decide) (by decide)]) ho, fun d h1 h2 e he => by rw [ii 42 50 25760 (by decide) (by decide)]; exact a4 d h1 h2 e he, fun d hd => by rw [ii 44 50 8 (by decide) (by decide)]; exact a5 d hd, fun j hj => ?_, a7.cg (ii 2 50 644 (by decide) (by decide)) (ii 42 50 25760 (by decide) (by decide))⟩, v⟩ (X.ri.cg (ii 52 50 644 (by decide) (by decide)) (ii 53 50 25760 (by decide) (by decide)) (ii 54 50 8 (by decide) (by decide)) rfl (ii 55 50 3 (by decide) (by decide)) (by rw [im]) (by rw [im]) (by rw [im]) ho) (by rw [im, ii 17 50 600 (by decide) (by decide)]; exact X.2.2.2.2.2.2.1) (by rw [im]; exact X.2.2.2.2.2.2.2), im⟩
  · unfold f_M_refuse
    have r3 := M.ro (i := 3) (n := 3) (by decide)
    rw [gR_at M (i := 3) (k := 50) (n := 3) (by decide), aI_iI (z := (k : Int)) r3 (by omega) (by omega) (by omega), uI_iI (z := (k : Int)) r3 (by omega) (by omega) (by omega), Int.toNat_natCast]
  · rw [h_i_si, if_pos rfl]
    show upd (h_i h (A 3)) k (h_i h (A 3) k + 1) j = if j = k then F.1.2.2.2.2.2.2 k + 1 else F.1.2.2.2.2.2.2 j
    unfold upd
    by_cases e : j = k
    · rw [if_pos e, if_pos e, a6 k hk]
    · rw [if_neg e, if_neg e, a6 j hj]
/-- the code is written: it is no part of the state -/
theorem RM.code (X : RM ρ A m h F) (v : Int32) : RM ρ A m (s_i h m 1 v) F ∧ chM A m h (s_i h m 1 v) := ⟨(X.fr (frM.field (by decide) v)).1, chM.rf.f 1 v⟩
theorem fault_M (N : Nat) (X : RM ρ A m h F) : RX ρ A m h (iI F.2.2.2) F 0 (f_M_fault N h m) := by
  obtain ⟨X1, c1⟩ := X.code 0
  refine X.x c1 X1 ?_ (by rw [h_i_si, if_pos rfl, upd_a])
  unfold f_M_fault
  rw [pI_at X.1.1, gI_at X1.1.1, X1.2.2.2.2.2.2.2]
theorem forget_M (N : Nat) (X : RM ρ A m h F) : RX ρ A m h () (forS F.1, F.2) 0 (f_M_forget N h m) := by
  obtain ⟨X1, c1⟩ := X.code 0
  have c2 : chM A m (s_i h m 1 0) (s_i (s_i h m 1 0) m 43 0) := chM.rf.f 43 0
  have ho := (X1.ch c2).2.2.2.1
  have ia : ∀ i k n, (i, k, n) ∈ mrows → k ≠ 1 → h_i (s_i (s_i h m 1 0) m 43 0) (A i) = h_i (s_i h m 1 0) (A i) := fun i k n hi hk => by rw [h_i_si, if_neg (X.mne hi hk)]
  have fm : ∀ j, j ≠ 43 → h_i (s_i (s_i h m 1 0) m 43 0) m j = h_i (s_i h m 1 0) m j := fun j hj => by rw [h_i_si, if_pos rfl, upd_o hj]
  obtain ⟨rt, v⟩ := X1.2.2.2.2.1
  obtain ⟨a1, a2, a3, a4, a5, a6, a7⟩ := rt
  have X2 : RM ρ A m (s_i (s_i h m 1 0) m 43 0) (forS F.1, F.2) := X1.put c2 ⟨fm 13 (by decide), fm 14 (by decide)⟩ ⟨⟨fun d hd => (a1 d hd).cg (fun j _ => by rw [ia 2 50 644 (by decide) (by decide)]) ho, ⟨by rw [fm 41 (by decide)]; exact a2.1, a2.2.1, by rw [h_i_si, if_pos rfl, upd_a]; rfl, Nat.zero_le _⟩, fun d hd e he => (a3 d hd e he).cg (fun j _ => by rw [ia 42 50 25760 (by decide) (by decide)]) ho, fun d h1 h2 e he => by rw [ia 42 50 25760 (by decide) (by decide)]; exact a4 d h1 h2 e he, fun d hd => absurd hd (Nat.not_lt_zero _), fun j hj => by rw [ia 3 50 3 (by decide) (by decide)]; exact a6 j hj, a7.cg (ia 2 50 644 (by decide) (by decide)) (ia 42 50 25760 (by decide) (by decide))⟩, ⟨v.1, v.2.1, v.2.2.1, Nat.zero_le _, fun k hk => absurd hk (Nat.not_lt_zero _)⟩⟩ (X1.ri.cg (ia 52 50 644 (by decide) (by decide)) (ia 53 50 25760 (by decide) (by decide)) (ia 54 50 8 (by decide) (by decide)) rfl (ia 55 50 3 (by decide) (by decide)) (fm 49 (by decide)) (fm 50 (by decide)) (fm 51 (by decide)) ho) (by rw [fm 20 (by decide), ia 17 50 600 (by decide) (by decide)]; exact X1.2.2.2.2.2.2.1) (by rw [fm 29 (by decide)]; exact X1.2.2.2.2.2.2.2)
  refine X.x (c1.trans c2) X2 ?_ (by rw [fm 1 (by decide), h_i_si, if_pos rfl, upd_a])
  unfold f_M_forget
  rw [pI_at X.1.1, pI_at X1.1.1]
theorem note_M (N : Nat) (X : RM ρ A m h F) {x : Int} (hx : i32 x) (w : Int64) : ((F.1.2.2.2.1 < 8 ∧ (-100000 ≤ x ∧ x ≤ 100000)) → RX ρ A m h (iI ((F.1.2.2.2.1 + 1 : Nat) : Int)) (noteS F.1 x w, F.2) 0 (f_M_note N h m (iI x) w)) ∧ (¬ (F.1.2.2.2.1 < 8 ∧ (-100000 ≤ x ∧ x ≤ 100000)) → RX ρ A m h (-1 : Int32) (rfS F.1 2, F.2) 0 (f_M_note N h m (iI x) w)) := by
  obtain ⟨X1, c1⟩ := X.code 0
  have k1 : h_i (s_i h m 1 0) m 1 = 0 := by rw [h_i_si, if_pos rfl, upd_a]
  obtain ⟨rt, v⟩ := X1.2.2.2.2.1
  obtain ⟨a1, a2, a3, a4, a5, a6, a7⟩ := rt
  have M1 := X1.1.1
  have no : f_M_note N h m (iI x) w = f_M_note_21 N (s_i h m 1 0) m → RX ρ A m h (-1 : Int32) (rfS F.1 2, F.2) 0 (f_M_note N h m (iI x) w) := fun e => by
    obtain ⟨g, b1, b2, b3, b4⟩ := refM_is N X1 (k := 2) (by omega)
    rw [e]
    unfold f_M_note_21
    refine X.x (c1.trans b2) b3 ?_ (by rw [b4]; exact k1)
    rw [cv_at M1, show (2 : Int32) = iI ((2 : Nat) : Int) from rfl, b1, cl_s]
  have e0 : f_M_note N h m (iI x) w = if iI (F.1.2.2.2.1 : Int) = (8 : Int32) then (f_M_note_21 N (s_i h m 1 0) m) else (cl (f_M_isX N (s_i h m 1 0) (iI x)) fun v3 h4 => if v3 = (0 : Int32) then (f_M_note_21 N h4 m) else (gR h4 (some m) 0 44 fun v5 => gI h4 (some m) 0 43 fun v6 => uI h4 v5 v6 (iI x) fun h7 => gR h7 (some m) 0 45 fun v8 => gI h7 (some m) 0 43 fun v9 => uJ h7 v8 v9 w fun h10 => gI h10 (some m) 0 43 fun v11 => pI h10 (some m) 0 43 (v11 + (1 : Int32)) fun h12 => gI h12 (some m) 0 43 fun v13 => some (v13, h12))) := by
    unfold f_M_note
    rw [pI_at X.1.1, gI_at M1, a2.2.2.1]
  have h8 := a2.2.2.2
  by_cases q1 : F.1.2.2.2.1 < 8
  · by_cases q2 : -100000 ≤ x ∧ x ≤ 100000
    · refine ⟨fun _ => ?_, fun z => absurd ⟨q1, q2⟩ z⟩
      obtain ⟨n, hn⟩ : ∃ n, n = F.1.2.2.2.1 := ⟨_, rfl⟩
      rw [← hn] at e0 q1 a5 ⊢
      have a23 : h_i (s_i h m 1 0) m 43 = iI n := by rw [hn]; exact a2.2.2.1
      have n44 := X.mne (i := 44) (k := 50) (n := 8) (by decide) (by decide)
      have c2 : chM A m (s_i h m 1 0) (s_i (s_i h m 1 0) (A 44) n (iI x)) := chM.rf.r (m_na 44 (k := 50) (n := 8) (by decide)) _ _
      have c3 : chM A m (s_i h m 1 0) (s_j (s_i (s_i h m 1 0) (A 44) n (iI x)) (A 45) n w) := c2.j (m_na 45 (k := 51) (n := 8) (by decide)) _ _
      have c4 : chM A m (s_i h m 1 0) (s_i (s_j (s_i (s_i h m 1 0) (A 44) n (iI x)) (A 45) n w) m 43 (iI ((n + 1 : Nat) : Int))) := c3.f _ _
      obtain ⟨g, hg⟩ : ∃ g, g = s_i (s_j (s_i (s_i h m 1 0) (A 44) n (iI x)) (A 45) n w) m 43 (iI ((n + 1 : Nat) : Int)) := ⟨_, rfl⟩
      have ho := (X1.ch c4).2.2.2.1
      have ia : ∀ i k n', (i, k, n') ∈ mrows → k ≠ 1 → i ≠ 44 → h_i g (A i) = h_i (s_i h m 1 0) (A i) := fun i k n' hi hk hne => by rw [hg, h_i_si, if_neg (X.mne hi hk), h_i_sj, h_i_si, if_neg (X.nn hi (by decide : (44, 50, 8) ∈ mrows) hne)]
      have fm : ∀ j, j ≠ 43 → h_i g m j = h_i (s_i h m 1 0) m j := fun j hj => by rw [hg, h_i_si, if_pos rfl, upd_o hj, h_i_sj, h_i_si, if_neg (Ne.symm n44)]
      have f43 : h_i g m 43 = iI ((n + 1 : Nat) : Int) := by rw [hg, h_i_si, if_pos rfl, upd_a]
      have i44 : h_i g (A 44) = upd (h_i (s_i h m 1 0) (A 44)) n (iI x) := by rw [hg, h_i_si, if_neg n44, h_i_sj, h_i_si, if_pos rfl]
      have j45 : h_j g (A 45) = vp_updL (h_j h (A 45)) n w := by rw [hg, h_j_si, h_j_sj, if_pos rfl]; rfl
      have j56 : h_j g (A 56) = h_j (s_i h m 1 0) (A 56) := by rw [hg, h_j_si, h_j_sj, if_neg (X.nn (by decide : (56, 51, 8) ∈ mrows) (by decide : (45, 51, 8) ∈ mrows) (by decide))]; rfl
      rw [← hg] at c4 ho
      have X2 : RM ρ A m g (noteS F.1 x w, F.2) := X1.put c4 ⟨fm 13 (by decide), fm 14 (by decide)⟩ ⟨⟨fun d hd => (a1 d hd).cg (fun j _ => by rw [ia 2 50 644 (by decide) (by decide) (by decide)]) ho, ⟨by rw [fm 41 (by decide)]; exact a2.1, a2.2.1, by rw [f43, hn]; rfl, by show F.1.2.2.2.1 + 1 ≤ 8; omega⟩, fun d hd e he => (a3 d hd e he).cg (fun j _ => by rw [ia 42 50 25760 (by decide) (by decide) (by decide)]) ho, fun d h1 h2 e he => by rw [ia 42 50 25760 (by decide) (by decide) (by decide)]; exact a4 d h1 h2 e he, fun d hd => ?_, fun j hj => by rw [ia 3 50 3 (by decide) (by decide) (by decide)]; exact a6 j hj, a7.cg (ia 2 50 644 (by decide) (by decide) (by decide)) (ia 42 50 25760 (by decide) (by decide) (by decide))⟩, ?_⟩ (X1.ri.cg (ia 52 50 644 (by decide) (by decide) (by decide)) (ia 53 50 25760 (by decide) (by decide) (by decide)) (ia 54 50 8 (by decide) (by decide) (by decide)) j56 (ia 55 50 3 (by decide) (by decide) (by decide)) (fm 49 (by decide)) (fm 50 (by decide)) (fm 51 (by decide)) ho) (by rw [fm 20 (by decide), ia 17 50 600 (by decide) (by decide) (by decide)]; exact X1.2.2.2.2.2.2.1) (by rw [fm 29 (by decide)]; exact X1.2.2.2.2.2.2.2)
      · refine X.x (c1.trans c4) X2 ?_ (by rw [fm 1 (by decide)]; exact k1)
        have M2 : MO A m (s_i (s_i h m 1 0) (A 44) n (iI x)) := M1
        have M3 : MO A m (s_j (s_i (s_i h m 1 0) (A 44) n (iI x)) (A 45) n w) := M1
        have M4 : MO A m g := X2.1.1
        have r45 := M1.2.1 (45, 51, 8) (by decide)
        rw [e0, if_neg (show ¬ iI (n : Int) = (8 : Int32) from fun z => by have := (iI_eq (b := 8) (by omega) (by omega)).mp z; omega), isX_y N _ q2, cl_s, if_neg (by decide), gR_at M1 (i := 44) (k := 50) (n := 8) (by decide), gI_at M1, a23, uI_iI (z := (n : Int)) (M1.ro (i := 44) (n := 8) (by decide)) (by omega) (by omega) (by omega), Int.toNat_natCast, gR_at M2 (i := 45) (k := 51) (n := 8) (by decide), gI_at M2, show h_i (s_i (s_i h m 1 0) (A 44) n (iI x)) m 43 = iI n by rw [h_i_si, if_neg (Ne.symm n44)]; exact a23, uJ_i (h := s_i (s_i h m 1 0) (A 44) n (iI x)) (n := 8) ⟨r45.2.1, r45.2.2⟩ (show n < 8 by omega) (by omega), gI_at M3, show h_i (s_j (s_i (s_i h m 1 0) (A 44) n (iI x)) (A 45) n w) m 43 = iI n by rw [h_i_sj, h_i_si, if_neg (Ne.symm n44)]; exact a23, pI_at M3, show iI (n : Int) + (1 : Int32) = iI ((n + 1 : Nat) : Int) by rw [show (1 : Int32) = iI 1 from rfl, iI_add]; rfl, ← hg, gI_at M4, f43]
      · have hd' : d < F.1.2.2.2.1 + 1 := hd
        rw [i44, j45]
        show upd (h_i (s_i h m 1 0) (A 44)) n (iI x) d = iI (if d = F.1.2.2.2.1 then x else F.1.2.2.2.2.1 d) ∧ vp_updL (h_j h (A 45)) n w d = if d = F.1.2.2.2.1 then w else F.1.2.2.2.2.2.1 d
        unfold upd vp_updL
        rw [← hn]
        by_cases e : d = n
        · rw [if_pos e, if_pos e, if_pos e, if_pos e]; exact ⟨rfl, rfl⟩
        · rw [if_neg e, if_neg e, if_neg e, if_neg e]; exact a5 d (by omega)
      · refine ⟨v.1, v.2.1, v.2.2.1, by show F.1.2.2.2.1 + 1 ≤ 8; omega, fun k hk => ?_⟩
        have hk' : k < F.1.2.2.2.1 + 1 := hk
        show -100000 ≤ (if k = F.1.2.2.2.1 then x else F.1.2.2.2.2.1 k) ∧ (if k = F.1.2.2.2.1 then x else F.1.2.2.2.2.1 k) ≤ 100000
        by_cases e : k = F.1.2.2.2.1
        · rw [if_pos e]; exact q2
        · rw [if_neg e]; exact v.2.2.2.2 k (by omega)
    · refine ⟨fun z => absurd z.2 q2, fun _ => no ?_⟩
      rw [e0, if_neg (show ¬ iI (F.1.2.2.2.1 : Int) = (8 : Int32) from fun z => by have := (iI_eq (b := 8) (by omega) (by omega)).mp z; omega), isX_n N _ hx q2, cl_s, if_pos rfl]
  · refine ⟨fun z => absurd z.1 q1, fun _ => no ?_⟩
    rw [e0, if_pos (show iI (F.1.2.2.2.1 : Int) = (8 : Int32) by rw [show F.1.2.2.2.1 = 8 by omega]; rfl)]
end
