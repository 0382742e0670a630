/-! THE REFERENCE: count, step, feed -/
section
variable {ρ : Nat → Nat} {A : Nat → Nat} {m : Nat} {h g u : hS} {F F' : FT}
theorem RM.rx (X : RM ρ A m h F) {α : Type} {ans : α} {code : Int32} {r : Option (α × hS)} (e : RE A m h ans code r) : RX ρ A m h ans F code r := by
  obtain ⟨g, e1, e2, e3⟩ := e
  obtain ⟨X1, t, _⟩ := X.fr e2
  exact X.x e2.c X1 e1 e3
theorem failM (N : Nat) (X : RM ρ A m h F) (k : Int32) : f_M_fail N h m k = some (0, s_i h m 1 k) := by
  unfold f_M_fail
  rw [pI_at X.1.1]
theorem code_a (h : hS) (m : Nat) (v : Int32) : h_i (s_i h m 1 v) m 1 = v := by rw [h_i_si, if_pos rfl, upd_a]
theorem count_M (N : Nat) (X : RM ρ A m h F) {w : Int} (hw : i32 w) : RX ρ A m h (if 0 ≤ w ∧ w ≤ 9 then zCount F w else 0) F (if 0 ≤ w ∧ w ≤ 9 then 0 else 1) (f_M_count N h m (iI w)) := by
  unfold i32 at hw
  obtain ⟨X1, c1⟩ := X.code 0
  have M1 := X1.1.1
  obtain ⟨rt, v⟩ := X1.2.2.2.2.1
  obtain ⟨a1, a2, a3, a4, a5, a6, a7⟩ := rt
  have ne : ∀ k : Int, -100 ≤ k ∧ k ≤ 100 → w ≠ k → ¬ iI w = iI k := fun k hk hne z => hne ((iI_eq hw (by omega)).mp z)
  have ok : ∀ v : Int32, f_M_count N h m (iI w) = some (v, s_i h m 1 0) → RX ρ A m h v F 0 (f_M_count N h m (iI w)) := fun v e => X.x c1 X1 e (code_a h m 0)
  have r60 : ∀ w : Int, 0 ≤ w ∧ w ≤ 3 → f_M_count_60 N (s_i h m 1 0) m (iI w) = some (iI (F.1.1 w.toNat).1, s_i h m 1 0) := fun w hw => by
    unfold f_M_count_60
    rw [gR_at M1 (i := 2) (k := 50) (n := 644) (by decide), show (161 : Int32) = iI 161 from rfl, iI_mul, aI_iI (M1.ro (i := 2) (n := 644) (by decide)) (by omega) (by omega) (by omega), show (161 * w).toNat = 161 * w.toNat by omega, (a1 w.toNat (by omega)).1]
  have r86 : ∀ w : Int, 7 ≤ w ∧ w ≤ 9 → f_M_count_86 N (s_i h m 1 0) m (iI w) = some (F.1.2.2.2.2.2.2 (w - 7).toNat, s_i h m 1 0) := fun w hw => by
    unfold f_M_count_86
    rw [gR_at M1 (i := 3) (k := 50) (n := 3) (by decide), show (7 : Int32) = iI 7 from rfl, iI_sub, aI_iI (M1.ro (i := 3) (n := 3) (by decide)) (by omega) (by omega) (by omega), a6 (w - 7).toNat (by omega)]
  by_cases h9 : 0 ≤ w ∧ w ≤ 9
  · rw [if_pos h9, if_pos h9]
    refine ok _ ?_
    unfold f_M_count zCount
    rw [pI_at X.1.1]
    by_cases w0 : w = 0
    · rw [if_pos (show iI w = (0 : Int32) by rw [w0]; rfl), r60 w (by omega), if_pos (by omega)]
    rw [if_neg (show ¬ iI w = (0 : Int32) from ne 0 (by omega) w0)]
    by_cases w1 : w = 1
    · rw [if_pos (show iI w = (1 : Int32) by rw [w1]; rfl), r60 w (by omega), if_pos (by omega)]
    rw [if_neg (show ¬ iI w = (1 : Int32) from ne 1 (by omega) w1)]
    by_cases w2 : w = 2
    · rw [if_pos (show iI w = (2 : Int32) by rw [w2]; rfl), r60 w (by omega), if_pos (by omega)]
    rw [if_neg (show ¬ iI w = (2 : Int32) from ne 2 (by omega) w2)]
    by_cases w3 : w = 3
    · rw [if_pos (show iI w = (3 : Int32) by rw [w3]; rfl), r60 w (by omega), if_pos (by omega)]
    rw [if_neg (show ¬ iI w = (3 : Int32) from ne 3 (by omega) w3), if_neg (show ¬ w ≤ 3 by omega)]
    by_cases w4 : w = 4
    · rw [if_pos (show iI w = (4 : Int32) by rw [w4]; rfl), gI_at M1, a2.1, if_pos w4]
    rw [if_neg (show ¬ iI w = (4 : Int32) from ne 4 (by omega) w4), if_neg w4]
    by_cases w5 : w = 5
    · rw [if_pos (show iI w = (5 : Int32) by rw [w5]; rfl), gI_at M1, a2.2.2.1, if_pos w5]
    rw [if_neg (show ¬ iI w = (5 : Int32) from ne 5 (by omega) w5), if_neg w5]
    by_cases w6 : w = 6
    · rw [if_pos (show iI w = (6 : Int32) by rw [w6]; rfl), gI_at M1, X1.2.2.2.2.2.2.1.1, if_pos w6]
    rw [if_neg (show ¬ iI w = (6 : Int32) from ne 6 (by omega) w6), if_neg w6]
    by_cases w7 : w = 7
    · rw [if_pos (show iI w = (7 : Int32) by rw [w7]; rfl), r86 w (by omega)]
    rw [if_neg (show ¬ iI w = (7 : Int32) from ne 7 (by omega) w7)]
    by_cases w8 : w = 8
    · rw [if_pos (show iI w = (8 : Int32) by rw [w8]; rfl), r86 w (by omega)]
    rw [if_neg (show ¬ iI w = (8 : Int32) from ne 8 (by omega) w8), if_pos (show iI w = (9 : Int32) by rw [show w = 9 by omega]; rfl), r86 w (by omega)]
  · rw [if_neg h9, if_neg h9]
    obtain ⟨X2, c2⟩ := X1.code 1
    refine X.x (c1.trans c2) X2 ?_ (code_a _ m 1)
    unfold f_M_count
    rw [pI_at X.1.1, if_neg (show ¬ iI w = (0 : Int32) from ne 0 (by omega) (by omega)), if_neg (show ¬ iI w = (1 : Int32) from ne 1 (by omega) (by omega)), if_neg (show ¬ iI w = (2 : Int32) from ne 2 (by omega) (by omega)), if_neg (show ¬ iI w = (3 : Int32) from ne 3 (by omega) (by omega)), if_neg (show ¬ iI w = (4 : Int32) from ne 4 (by omega) (by omega)), if_neg (show ¬ iI w = (5 : Int32) from ne 5 (by omega) (by omega)), if_neg (show ¬ iI w = (6 : Int32) from ne 6 (by omega) (by omega)), if_neg (show ¬ iI w = (7 : Int32) from ne 7 (by omega) (by omega)), if_neg (show ¬ iI w = (8 : Int32) from ne 8 (by omega) (by omega)), if_neg (show ¬ iI w = (9 : Int32) from ne 9 (by omega) (by omega)), cv_at M1, failM N X1, cl_s]
theorem stepsM (N : Nat) (X : RM ρ A m h F) {c : Nat} (hc : c < 4) : f_M_steps N h m (iI c) = some (iI (F.1.1 c).1, h) := by
  obtain ⟨M, s⟩ := X.rs
  exact steps_is N M (h_i h) s hc
theorem stepAtM (N : Nat) (X : RM ρ A m h F) {c i w : Nat} (hc : c < 4) (hi : i < (F.1.1 c).1) (hw : w < 3) : f_M_stepAt N h m (iI c) (iI i) (iI w) = some (if w = 0 then iI ((F.1.1 c).2.1 i).1 else if w = 1 then iI ((F.1.1 c).2.1 i).2.1 else iI ((F.1.1 c).2.1 i).2.2, h) := by
  obtain ⟨M, s⟩ := X.rs
  obtain ⟨r1, r2, r3⟩ := X.2.2.2.2.1.1.1 c hc
  obtain ⟨b1, b2, b3, _⟩ := r3 i hi
  have := stepAt_is N M (h_i h) hc (show i < 40 by omega) (show w < 4 by omega)
  rw [w_i_self] at this
  rw [this]
  rcases (show w = 0 ∨ w = 1 ∨ w = 2 by omega) with e | e | e <;> subst e
  · rw [if_pos rfl]; show some (h_i h (A 2) (161 * c + 1 + 4 * i), h) = _; rw [b1]
  · rw [if_neg (by decide), if_pos rfl]; show some (h_i h (A 2) (161 * c + 1 + 4 * i + 1), h) = _; rw [b2]
  · rw [if_neg (by decide), if_neg (by decide)]; show some (h_i h (A 2) (161 * c + 1 + 4 * i + 2), h) = _; rw [b3]
theorem isStepM_y (N : Nat) (X : RM ρ A m h F) {c i : Int} (q : isSt F.1.1 c i) : f_M_isStep N h m (iI c) (iI i) = some (1, h) := by
  obtain ⟨M, s⟩ := X.rs
  exact isStep_y N M (h_i h) s q
theorem isStepM_n (N : Nat) (X : RM ρ A m h F) {c i : Int} (hc : i32 c) (hi : i32 i) (q : ¬ isSt F.1.1 c i) : f_M_isStep N h m (iI c) (iI i) = some (0, h) := by
  obtain ⟨M, s⟩ := X.rs
  exact isStep_n N M (h_i h) s hc hi q
theorem step_M (N : Nat) (X : RM ρ A m h F) {c i w : Int} (hc : i32 c) (hi : i32 i) (hw : i32 w) : (isSt F.1.1 c i ∧ (0 ≤ w ∧ w ≤ 2) → RX ρ A m h (if w = 0 then iI ((F.1.1 c.toNat).2.1 i.toNat).1 else if w = 1 then iI ((F.1.1 c.toNat).2.1 i.toNat).2.1 else iI ((F.1.1 c.toNat).2.1 i.toNat).2.2) F 0 (f_M_step N h m (iI c) (iI i) (iI w))) ∧ (¬ (isSt F.1.1 c i ∧ (0 ≤ w ∧ w ≤ 2)) → RX ρ A m h (0 : Int32) F 1 (f_M_step N h m (iI c) (iI i) (iI w))) := by
  unfold i32 at hw
  obtain ⟨X1, c1⟩ := X.code 0
  have M1 := X1.1.1
  have no : f_M_step N h m (iI c) (iI i) (iI w) = f_M_step_36 N (s_i h m 1 0) m → RX ρ A m h (0 : Int32) F 1 (f_M_step N h m (iI c) (iI i) (iI w)) := fun e => by
    obtain ⟨X2, c2⟩ := X1.code 1
    refine X.x (c1.trans c2) X2 ?_ (code_a _ m 1)
    rw [e]
    unfold f_M_step_36 f_M_step_41
    rw [cv_at M1, failM N X1, cl_s]
  by_cases q1 : isSt F.1.1 c i
  · have hin : f_M_isIn N (s_i h m 1 0) (lI w) (lI 0) (lI 2) = some (if 0 ≤ w ∧ w ≤ 2 then 1 else 0, s_i h m 1 0) := isIn_is N _ (by omega) (by omega) (by omega)
    by_cases q2 : 0 ≤ w ∧ w ≤ 2
    · refine ⟨fun _ => X.x c1 X1 ?_ (code_a h m 0), fun z => absurd ⟨q1, q2⟩ z⟩
      rw [if_pos q2] at hin
      obtain ⟨qc, qi⟩ := q1
      obtain ⟨n1, n2⟩ := n4 qc
      unfold f_M_step f_M_step_41
      rw [pI_at X.1.1, cv_at M1, isStepM_y N X1 ⟨qc, qi⟩, cl_s, if_neg (by decide), iI_l (z := w) (by omega) (by omega), show (0 : Int64) = lI 0 from rfl, show (2 : Int64) = lI 2 from rfl, hin, cl_s, if_neg (by decide), cv_at M1]
      have := stepAtM N X1 (c := c.toNat) (i := i.toNat) (w := w.toNat) n1 (by omega) (by omega)
      rw [n2, show ((i.toNat : Nat) : Int) = i by omega, show ((w.toNat : Nat) : Int) = w by omega] at this
      rw [this, cl_s]
      rcases (show w = 0 ∨ w = 1 ∨ w = 2 by omega) with e | e | e <;> subst e <;> rfl
    · refine ⟨fun z => absurd z.2 q2, fun _ => no ?_⟩
      rw [if_neg q2] at hin
      unfold f_M_step
      rw [pI_at X.1.1, cv_at M1, isStepM_y N X1 q1, cl_s, if_neg (by decide), iI_l (z := w) (by omega) (by omega), show (0 : Int64) = lI 0 from rfl, show (2 : Int64) = lI 2 from rfl, hin, cl_s, if_pos rfl]
  · refine ⟨fun z => absurd z.1 q1, fun _ => no ?_⟩
    unfold f_M_step
    rw [pI_at X.1.1, cv_at M1, isStepM_n N X1 hc hi q1, cl_s, if_pos rfl]
/-- the lowest byte of a number, shifted -/
theorem and255 (x : Int32) : x &&& (255 : Int32) = iI (x.toInt % 256) := by
  apply Int32.toBitVec_inj.mp
  show x.toBitVec &&& (255#32) = BitVec.ofInt 32 (x.toInt % 256)
  apply BitVec.eq_of_toNat_eq
  rw [BitVec.toNat_and, BitVec.toNat_ofInt, show (255#32).toNat = 2 ^ 8 - 1 from rfl, Nat.and_two_pow_sub_one_eq_mod]
  have e2 : x.toInt = if 2 * x.toBitVec.toNat < 2 ^ 32 then (x.toBitVec.toNat : Int) else (x.toBitVec.toNat : Int) - ((2 ^ 32 : Nat) : Int) := BitVec.toInt_eq_toNat_cond x.toBitVec
  have l1 := x.toBitVec.isLt
  generalize x.toBitVec.toNat = n at *
  have p32 : (2 : Nat) ^ 32 = 4294967296 := rfl
  have p8 : (2 : Nat) ^ 8 = 256 := rfl
  rw [p32] at e2 l1 ⊢
  rw [p8]
  split at e2 <;> rw [e2] <;> omega
theorem fb_ref (w : Int32) {k : Nat} (hk : k = 24 ∨ k = 16 ∨ k = 8 ∨ k = 0) : (w >>> (iI (k : Int) &&& 31)) &&& (255 : Int32) = iI (fb w k) := by
  have hs : ((iI (k : Int) &&& 31).toBitVec.smod 32).toNat = k := by rcases hk with rfl | rfl | rfl | rfl <;> decide
  rw [and255, pk_shr w (iI (k : Int) &&& 31) k hs, Int.shiftRight_eq_div_pow]
  rfl
/-- the word that the j-th of twenty bytes is of -/
def fdw (a b c d e : Int32) (j : Nat) : Int32 := if j < 4 then a else if j < 8 then b else if j < 12 then c else if j < 16 then d else e
def fdb (a b c d e : Int32) (j : Nat) : Int := fb (fdw a b c d e j) (24 - 8 * (j % 4))
theorem feedT_at (T : Nat × (Nat → Int)) (a b c d e : Int32) : (feedT T a b c d e).1 = T.1 + 20 ∧ ∀ i, i < T.1 + 20 → (feedT T a b c d e).2 i = if i < T.1 then T.2 i else fdb a b c d e (i - T.1) := by
  refine ⟨rfl, fun i hi => ?_⟩
  show (if i < T.1 + 4 + 4 + 4 + 4 then (if i < T.1 + 4 + 4 + 4 then (if i < T.1 + 4 + 4 then (if i < T.1 + 4 then (if i < T.1 then T.2 i else fb a (24 - 8 * (i - T.1))) else fb b (24 - 8 * (i - (T.1 + 4)))) else fb c (24 - 8 * (i - (T.1 + 4 + 4)))) else fb d (24 - 8 * (i - (T.1 + 4 + 4 + 4)))) else fb e (24 - 8 * (i - (T.1 + 4 + 4 + 4 + 4)))) = _
  unfold fdb fdw
  by_cases h0 : i < T.1
  · rw [if_pos (by omega), if_pos (by omega), if_pos (by omega), if_pos (by omega), if_pos h0, if_pos h0]
  rw [if_neg h0]
  by_cases h1 : i < T.1 + 4
  · rw [if_pos (by omega), if_pos (by omega), if_pos (by omega), if_pos h1, if_neg h0, if_pos (by omega), show (i - T.1) % 4 = i - T.1 by omega]
  by_cases h2 : i < T.1 + 8
  · rw [if_pos (by omega), if_pos (by omega), if_pos (by omega), if_neg h1, if_neg h0, if_neg (by omega), if_pos (by omega), show (i - T.1) % 4 = i - (T.1 + 4) by omega]
  by_cases h3 : i < T.1 + 12
  · rw [if_pos (by omega), if_pos (by omega), if_neg (by omega), if_neg h0, if_neg (by omega), if_neg (by omega), if_pos (by omega), show (i - T.1) % 4 = i - (T.1 + 4 + 4) by omega]
  by_cases h4 : i < T.1 + 16
  · rw [if_pos (by omega), if_neg (by omega), if_neg h0, if_neg (by omega), if_neg (by omega), if_neg (by omega), if_pos (by omega), show (i - T.1) % 4 = i - (T.1 + 4 + 4 + 4) by omega]
  · rw [if_neg (by omega), if_neg h0, if_neg (by omega), if_neg (by omega), if_neg (by omega), if_neg (by omega), show (i - T.1) % 4 = i - (T.1 + 4 + 4 + 4 + 4) by omega]
/-- one byte comes to the reference's tape -/
theorem RM.fed (X : RM ρ A m h F) (hT : F.2.2.1.1 < 600) (b : Int) : RM ρ A m (s_i (s_i h (A 17) F.2.2.1.1 (iI b)) m 20 (iI ((F.2.2.1.1 + 1 : Nat) : Int))) (F.1, F.2.1, (F.2.2.1.1 + 1, fun i => if i = F.2.2.1.1 then b else F.2.2.1.2 i), F.2.2.2) ∧ chM A m h (s_i (s_i h (A 17) F.2.2.1.1 (iI b)) m 20 (iI ((F.2.2.1.1 + 1 : Nat) : Int))) ∧ h_i (s_i (s_i h (A 17) F.2.2.1.1 (iI b)) m 20 (iI ((F.2.2.1.1 + 1 : Nat) : Int))) m 1 = h_i h m 1 := by
  have n17 := X.mne (i := 17) (k := 50) (n := 600) (by decide) (by decide)
  have c : chM A m h (s_i (s_i h (A 17) F.2.2.1.1 (iI b)) m 20 (iI ((F.2.2.1.1 + 1 : Nat) : Int))) := (chM.rf.r (m_na 17 (k := 50) (n := 600) (by decide)) _ _).f _ _
  have ho := (X.ch c).2.2.2.1
  obtain ⟨g, hg⟩ : ∃ g, g = s_i (s_i h (A 17) F.2.2.1.1 (iI b)) m 20 (iI ((F.2.2.1.1 + 1 : Nat) : Int)) := ⟨_, rfl⟩
  rw [← hg] at c ho ⊢
  have ia : ∀ i k n', (i, k, n') ∈ mrows → k ≠ 1 → i ≠ 17 → h_i g (A i) = h_i h (A i) := fun i k n' hi hk hne => by rw [hg, h_i_si, if_neg (X.mne hi hk), h_i_si, if_neg (X.nn hi (by decide : (17, 50, 600) ∈ mrows) hne)]
  have fm : ∀ j, j ≠ 20 → h_i g m j = h_i h m j := fun j hj => by rw [hg, h_i_si, if_pos rfl, upd_o hj, h_i_si, if_neg (Ne.symm n17)]
  obtain ⟨rt, v⟩ := X.2.2.2.2.1
  have jj : h_j g = h_j h := by rw [hg]; rfl
  refine ⟨X.put c ⟨fm 13 (by decide), fm 14 (by decide)⟩ ⟨rt.cg (ia 2 50 644 (by decide) (by decide) (by decide)) (ia 42 50 25760 (by decide) (by decide) (by decide)) (ia 44 50 8 (by decide) (by decide) (by decide)) (by rw [jj]) (ia 3 50 3 (by decide) (by decide) (by decide)) (fm 41 (by decide)) (fm 43 (by decide)) ho, v⟩ (X.ri.cg (ia 52 50 644 (by decide) (by decide) (by decide)) (ia 53 50 25760 (by decide) (by decide) (by decide)) (ia 54 50 8 (by decide) (by decide) (by decide)) (by rw [jj]) (ia 55 50 3 (by decide) (by decide) (by decide)) (fm 49 (by decide)) (fm 50 (by decide)) (fm 51 (by decide)) ho) ⟨by rw [hg, h_i_si, if_pos rfl, upd_a], by show F.2.2.1.1 + 1 ≤ 600; omega, fun i hi => ?_⟩ (by rw [fm 29 (by decide)]; exact X.2.2.2.2.2.2.2), c, fm 1 (by decide)⟩
  have hi' : i < F.2.2.1.1 + 1 := hi
  rw [hg, h_i_si, if_neg n17, h_i_si, if_pos rfl]
  show upd (h_i h (A 17)) F.2.2.1.1 (iI b) i = iI (if i = F.2.2.1.1 then b else F.2.2.1.2 i)
  unfold upd
  by_cases e : i = F.2.2.1.1
  · rw [if_pos e, if_pos e]
  · rw [if_neg e, if_neg e]; exact X.2.2.2.2.2.2.1.2.2 i (by omega)
theorem RM.tcg (X : RM ρ A m h F) {T' : Nat × (Nat → Int)} (h1 : T'.1 = F.2.2.1.1) (h2 : ∀ i, i < F.2.2.1.1 → T'.2 i = F.2.2.1.2 i) : RM ρ A m h (F.1, F.2.1, T', F.2.2.2) := by
  obtain ⟨a, b, c, d, e, f, ⟨t1, t2, t3⟩, z⟩ := X
  exact ⟨a, b, c, d, e, f, ⟨by rw [h1]; exact t1, by rw [h1]; exact t2, fun i hi => by rw [h1] at hi; rw [h2 i hi]; exact t3 i hi⟩, z⟩
theorem feed_loop (N : Nat) (a b c d e : Int32) (hT : F.2.2.1.1 + 20 ≤ 600) : ∀ (q j : Nat) (h : hS) (fuel : Nat) (T : Nat × (Nat → Int)), j + q = 20 → RM ρ A m h (F.1, F.2.1, T, F.2.2.2) → T.1 = F.2.2.1.1 + j → (∀ i, i < T.1 → T.2 i = if i < F.2.2.1.1 then F.2.2.1.2 i else fdb a b c d e (i - F.2.2.1.1)) → ∃ g T', f_M_feed_23 N (q + (fuel + 1)) h m a b c d e (iI j) = some (iI ((F.2.2.1.1 + 20 : Nat) : Int), g) ∧ chM A m h g ∧ RM ρ A m g (F.1, F.2.1, T', F.2.2.2) ∧ h_i g m 1 = h_i h m 1 ∧ T'.1 = F.2.2.1.1 + 20 ∧ ∀ i, i < T'.1 → T'.2 i = if i < F.2.2.1.1 then F.2.2.1.2 i else fdb a b c d e (i - F.2.2.1.1) := by
  intro q
  induction q with
  | zero =>
    intro j h fuel T hj X h1 h2
    have e20 : j = 20 := by omega
    subst e20
    refine ⟨h, T, ?_, chM.rf, X, rfl, h1, h2⟩
    rw [Nat.zero_add]
    unfold f_M_feed_23
    rw [if_pos (show (20 : Int32) ≤ iI ((20 : Nat) : Int) by decide), gI_at X.1.1, X.2.2.2.2.2.2.1.1]
    show some (iI (T.1 : Int), h) = _
    rw [h1]
  | succ q ih =>
    intro j h fuel T hj X h1 h2
    have hTs : T.1 < 600 := by omega
    obtain ⟨X1, c1, k1⟩ := X.fed (show T.1 < 600 from hTs) (fdb a b c d e j)
    obtain ⟨g, T', b1, b2, b3, b4, b5, b6⟩ := ih (j + 1) _ fuel (T.1 + 1, fun i => if i = T.1 then fdb a b c d e j else T.2 i) (by omega) X1 (by show T.1 + 1 = _; omega) (fun i hi => by
      have hi' : i < T.1 + 1 := hi
      show (if i = T.1 then fdb a b c d e j else T.2 i) = _
      by_cases e : i = T.1
      · rw [if_pos e, if_neg (by omega), show i - F.2.2.1.1 = j by omega]
      · rw [if_neg e]; exact h2 i (by omega))
    refine ⟨g, T', ?_, c1.trans b2, b3, b4.trans k1, b5, b6⟩
    have M := X.1.1
    have n17 := X.mne (i := 17) (k := 50) (n := 600) (by decide) (by decide)
    have t20 : h_i h m 20 = iI T.1 := X.2.2.2.2.2.2.1.1
    have M1 : MO A m (s_i h (A 17) T.1 (iI (fdb a b c d e j))) := M
    have ej : ((24 : Int32) - ((8 : Int32) * (iI (j : Int) - iI (j : Int) / (4 : Int32) * (4 : Int32)))) = iI ((24 - 8 * (j % 4) : Nat) : Int) := by
      have : ∀ j : Fin 20, ((24 : Int32) - ((8 : Int32) * (iI (j.val : Int) - iI (j.val : Int) / (4 : Int32) * (4 : Int32)))) = iI ((24 - 8 * (j.val % 4) : Nat) : Int) := by decide
      exact this ⟨j, by omega⟩
    have e76 : ∀ (rc : hS → Nat → Int32 → Int32 → Int32 → Int32 → Int32 → Int32 → Option (Int32 × hS)) (y : Int32), y = fdw a b c d e j → f_M_feed_76 N rc h m a b c d e (iI j) y = rc (s_i (s_i h (A 17) T.1 (iI (fdb a b c d e j))) m 20 (iI ((T.1 + 1 : Nat) : Int))) m a b c d e (iI ((j + 1 : Nat) : Int)) := fun rc y hy => by
      have hk : 24 - 8 * (j % 4) = 24 ∨ 24 - 8 * (j % 4) = 16 ∨ 24 - 8 * (j % 4) = 8 ∨ 24 - 8 * (j % 4) = 0 := by omega
      have e1 : iI (T.1 : Int) + (1 : Int32) = iI ((T.1 + 1 : Nat) : Int) := by rw [show (1 : Int32) = iI 1 from rfl, iI_add]; rfl
      have e2 : iI (j : Int) + (1 : Int32) = iI ((j + 1 : Nat) : Int) := by rw [show (1 : Int32) = iI 1 from rfl, iI_add]; rfl
      unfold f_M_feed_76
      rw [gR_at M (i := 17) (k := 50) (n := 600) (by decide), gI_at M, t20, dv_ok (by decide), ej, fb_ref y hk, hy, uI_iI (z := (T.1 : Int)) (M.ro (i := 17) (n := 600) (by decide)) (by omega) (by omega) (by omega), Int.toNat_natCast]
      show (gI (s_i h (A 17) T.1 (iI (fdb a b c d e j))) (some m) 0 20 fun v4 => pI (s_i h (A 17) T.1 (iI (fdb a b c d e j))) (some m) 0 20 (v4 + (1 : Int32)) fun h5 => bn (iI (j : Int) + (1 : Int32)) fun v6 => rc h5 m a b c d e v6) = _
      rw [gI_at M1, show h_i (s_i h (A 17) T.1 (iI (fdb a b c d e j))) m 20 = iI T.1 by rw [h_i_si, if_neg (Ne.symm n17)]; exact t20, pI_at M1, e1, bn_i, e2]
    rw [show q + 1 + (fuel + 1) = (q + (fuel + 1)) + 1 by omega]
    conv => lhs; unfold f_M_feed_23
    have le : ∀ k : Int, -100 ≤ k ∧ k ≤ 100 → ((iI k ≤ iI (j : Int)) ↔ k ≤ j) := fun k hk => iI_le (by omega) (by omega)
    rw [if_neg (show ¬ (20 : Int32) ≤ iI (j : Int) from fun z => absurd ((le 20 (by omega)).mp z) (by omega))]
    unfold fdw at e76
    by_cases h4 : j < 4
    · rw [if_neg (show ¬ (4 : Int32) ≤ iI (j : Int) from fun z => absurd ((le 4 (by omega)).mp z) (by omega)), e76 _ _ (by rw [if_pos h4])]; exact b1
    rw [if_pos (show (4 : Int32) ≤ iI (j : Int) from (le 4 (by omega)).mpr (by omega))]
    by_cases h8 : j < 8
    · rw [if_neg (show ¬ (8 : Int32) ≤ iI (j : Int) from fun z => absurd ((le 8 (by omega)).mp z) (by omega)), e76 _ _ (by rw [if_neg h4, if_pos h8])]; exact b1
    rw [if_pos (show (8 : Int32) ≤ iI (j : Int) from (le 8 (by omega)).mpr (by omega))]
    by_cases h12 : j < 12
    · rw [if_neg (show ¬ (12 : Int32) ≤ iI (j : Int) from fun z => absurd ((le 12 (by omega)).mp z) (by omega)), e76 _ _ (by rw [if_neg h4, if_neg h8, if_pos h12])]; exact b1
    rw [if_pos (show (12 : Int32) ≤ iI (j : Int) from (le 12 (by omega)).mpr (by omega))]
    by_cases h16 : j < 16
    · rw [if_neg (show ¬ (16 : Int32) ≤ iI (j : Int) from fun z => absurd ((le 16 (by omega)).mp z) (by omega)), e76 _ _ (by rw [if_neg h4, if_neg h8, if_neg h12, if_pos h16])]; exact b1
    rw [if_pos (show (16 : Int32) ≤ iI (j : Int) from (le 16 (by omega)).mpr (by omega)), e76 _ _ (by rw [if_neg h4, if_neg h8, if_neg h12, if_neg h16])]; exact b1
theorem feed_M (N : Nat) (hN : 100 ≤ N) (X : RM ρ A m h F) (a b c d e : Int32) : (F.2.2.1.1 + 20 ≤ 600 → RX ρ A m h (iI ((F.2.2.1.1 + 20 : Nat) : Int)) (F.1, F.2.1, feedT F.2.2.1 a b c d e, F.2.2.2) 0 (f_M_feed N h m a b c d e)) ∧ (¬ F.2.2.1.1 + 20 ≤ 600 → RX ρ A m h (-1 : Int32) F 0 (f_M_feed N h m a b c d e)) := by
  obtain ⟨X1, c1⟩ := X.code 0
  have t20 : h_i (s_i h m 1 0) m 20 = iI F.2.2.1.1 := X1.2.2.2.2.2.2.1.1
  have h600 := X1.2.2.2.2.2.2.1.2.1
  have e20 : iI (F.2.2.1.1 : Int) + (20 : Int32) = iI ((F.2.2.1.1 + 20 : Nat) : Int) := by rw [show (20 : Int32) = iI 20 from rfl, iI_add]; rfl
  have e0 : f_M_feed N h m a b c d e = if iI ((F.2.2.1.1 + 20 : Nat) : Int) ≤ (600 : Int32) then (f_M_feed_23 N N (s_i h m 1 0) m a b c d e (0 : Int32)) else (some ((-1 : Int32), s_i h m 1 0)) := by
    unfold f_M_feed
    rw [pI_at X.1.1, gI_at X1.1.1, t20, e20]
  constructor
  · intro hT
    obtain ⟨g, T', b1, b2, b3, b4, b5, b6⟩ := feed_loop (F := F) N a b c d e hT 20 0 (s_i h m 1 0) (N - 21) F.2.2.1 (by omega) X1 rfl (fun i hi => by rw [if_pos hi])
    rw [show 20 + (N - 21 + 1) = N by omega] at b1
    obtain ⟨f1, f2⟩ := feedT_at F.2.2.1 a b c d e
    have X2 := b3.tcg (T' := feedT F.2.2.1 a b c d e) (by rw [f1]; exact b5.symm) (fun i hi => by
      have hi' : i < T'.1 := hi
      rw [f2 i (by omega)]; exact (b6 i hi').symm)
    refine X.x (c1.trans b2) X2 ?_ (by rw [b4]; exact code_a h m 0)
    rw [e0, if_pos (show iI ((F.2.2.1.1 + 20 : Nat) : Int) ≤ (600 : Int32) from (iI_le (b := 600) (by omega) (by omega)).mpr (by omega))]
    exact b1
  · intro hT
    refine X.x c1 X1 ?_ (code_a h m 0)
    rw [e0, if_neg (show ¬ iI ((F.2.2.1.1 + 20 : Nat) : Int) ≤ (600 : Int32) from fun z => absurd ((iI_le (b := 600) (by omega) (by omega)).mp z) (by omega))]
end
