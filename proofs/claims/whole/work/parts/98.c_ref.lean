/-! THE REFERENCE'S READER: all clauses -/
section
variable {ρ : Nat → Nat} {A : Nat → Nat} {m : Nat} {h g u : hS} {F F' : FT} {B : Nat → Int} {n : Nat} {R P U V : Nat → Int32} {β : Type}
theorem hW_c (A : Nat → Nat) (m : Nat) (h : hS) (R P U : Nat → Int32) : chM A m h (hW A m h R P U) := ((chM.rf.w (m_na 18 (k := 50) (n := 644) (by decide)) R).w (m_na 19 (k := 50) (n := 40) (by decide)) P).trans ⟨⟨rfl, rfl, rfl, rfl, rfl⟩, fun q h1 _ => ⟨by unfold hW; rw [h_i_sw, if_neg h1], rfl⟩⟩
theorem RM.wdW (X : RM ρ A m h F) (R P U : Nat → Int32) : ∀ k, k < 9 → WD ρ (hW A m h R P U) (h_r (hW A m h R P U) (A 0) k) (zWord k) := fun k hk => (X.2.2.2.1 k hk).keep (X.ch (hW_c A m h R P U)).1 (fun z => by have : (30 : Nat) = 300 := z; omega)
theorem rc38_f (N : Nat) (M : MO A m h) (h27 : U 27 ≠ 0) (x1 x2 : Int32) : f_M_readClause_38 N (hW A m h R P U) m x1 x2 = some ((), hW A m h R P U) := by
  unfold f_M_readClause_38
  rw [gI_w M, if_neg h27]
theorem readClause_u (N : Nat) (hN : 1000 ≤ N) (X : RM ρ A m h F) (T : TQ A m h B n) {e : Nat} (he : e ≤ n) (t : tokR B U (zTok B n e)) (h27 : U 27 = 0) (h22 : U 22 = iI n) {k : Nat} (hk : k ≤ 40) (hR : R 0 = iI k) {cost : Int} (hc : 0 ≤ cost ∧ cost ≤ 3) : (zKd B (zTok B n e) = -1 → FltS A m h U 1 (zTok B n e).2.1 (f_M_readClause N (hW A m h R P U) m (iI cost))) ∧ (zKd B (zTok B n e) ≠ -1 → 40 ≤ k → FltS A m h U 3 (zTok B n e).2.1 (f_M_readClause N (hW A m h R P U) m (iI cost))) ∧ (zKd B (zTok B n e) ≠ -1 → ¬ 40 ≤ k → (zCf B n (zKd B (zTok B n e)) cost (zTok B n e).2.2 = 0 → OkS A m h B n U (zCe B n (zKd B (zTok B n e)) (zTok B n e).2.2) (rcR R k (zKd B (zTok B n e)) (zFw B n (zKd B (zTok B n e)) (zTok B n e).2.2) (zSw B n (zKd B (zTok B n e)) (zFe B n (zKd B (zTok B n e)) (zTok B n e).2.2))) (upd P k (iI (zTok B n e).2.1)) (f_M_readClause N (hW A m h R P U) m (iI cost))) ∧ (zCf B n (zKd B (zTok B n e)) cost (zTok B n e).2.2 ≠ 0 → FltS A m h U (zCf B n (zKd B (zTok B n e)) cost (zTok B n e).2.2) (zCp B n (zKd B (zTok B n e)) cost (zTok B n e).2.2) (f_M_readClause N (hW A m h R P U) m (iI cost)))) := by
  have M := T.1
  have T' := T.w R P
  have wu : f_M_which N (hW A m h R P U) m = some (iI (zKd B (zTok B n e)), hW A m h R P U) := which_u N hN T' he t h27 (X.wdW R P U)
  have kr := zKd_rng B (zTok B n e)
  have flt : ∀ k : Int32, k = 1 ∨ k = 3 → ∀ x2 : Int32, FltS A m h U k.toInt (zTok B n e).2.1 (cl (f_M_wrong N (hW A m h R P U) m k) fun _ h5 => f_M_readClause_38 N h5 m (iI cost) x2) := fun k hk x2 => by
    refine ⟨R, P, upd (upd U 27 k) 28 (U 25), ?_, fun j j1 j2 j3 => by rw [upd_o j3, upd_o j2], by rw [upd_o (by decide), upd_a]; rcases hk with z | z <;> rw [z] <;> rfl, by rw [upd_a]; exact t.2.2.1⟩
    rw [show f_M_wrong N (hW A m h R P U) m k = _ from wrong_u N T'.1 h27 k, cl_s]
    exact rc38_f N M (by rw [upd_o (by decide), upd_a]; rcases hk with z | z <;> rw [z] <;> decide) _ _
  unfold f_M_readClause
  rw [cv_w M, wu, cl_s]
  refine ⟨fun q => ?_, fun q q40 => ?_, fun q q40 => ?_⟩
  · rw [if_pos (show iI (zKd B (zTok B n e)) = (-1 : Int32) by rw [q]; decide), cv_w M]
    obtain ⟨R', P', V, f1, f2⟩ := flt 1 (Or.inl rfl) (iI (zKd B (zTok B n e)))
    refine ⟨R', P', V, ?_, f2⟩
    rw [show f_M_wrong N (hW A m h R P U) m (1 : Int32) = _ from wrong_u N T'.1 h27 1, cl_s] at f1 ⊢
    unfold f_M_readClause_15
    refine Eq.trans ?_ f1
    show (gI (hW A m h R P (upd (upd U 27 1) 28 (U 25))) (some m) 0 27 fun v1 => _) = _
    rw [gI_w M, upd_o (by decide), upd_a, if_neg (by decide)]
  · rw [if_neg (show ¬ iI (zKd B (zTok B n e)) = (-1 : Int32) from fun z => q ((iI_eq (b := -1) (by omega) (by omega)).mp (z.trans (by decide))))]
    have e40 : k = 40 := by omega
    unfold f_M_readClause_15
    rw [gI_w M, h27, if_pos rfl, g18 M, aI_18 M, hR, if_pos (show iI (k : Int) = (40 : Int32) by rw [e40]; rfl), cv_w M]
    exact flt 3 (Or.inr rfl) _
  · rw [if_neg (show ¬ iI (zKd B (zTok B n e)) = (-1 : Int32) from fun z => q ((iI_eq (b := -1) (by omega) (by omega)).mp (z.trans (by decide))))]
    unfold f_M_readClause_15
    rw [gI_w M, h27, if_pos rfl, g18 M, aI_18 M, hR, if_neg (show ¬ iI (k : Int) = (40 : Int32) from fun z => by have := (iI_eq (b := 40) (by omega) (by omega)).mp z; omega)]
    exact rc38 N hN T he t h27 h22 (by omega) hR (kr.resolve_left q) hc
/-- the rows behind clauses that were read -/
def rdS (R' P' : Nat → Int32) (k : Nat) (L : List (Nat × Int × Int × Int)) : Prop := R' 0 = iI ((k + L.length : Nat) : Int) ∧ ∀ i, (hi : i < L.length) → R' (1 + 4 * (k + i)) = iI L[i].2.1 ∧ R' (2 + 4 * (k + i)) = iI L[i].2.2.1 ∧ R' (3 + 4 * (k + i)) = iI L[i].2.2.2 ∧ R' (4 + 4 * (k + i)) = 0 ∧ P' (k + i) = iI L[i].1
theorem text73 (N : Nat) (hN : 1000 ≤ N) (X : RM ρ A m h F) (T : TQ A m h B n) {cost : Int} (hc : 0 ≤ cost ∧ cost ≤ 3) : ∀ (q k e : Nat) (R P U : Nat → Int32) (fuel : Nat), k + q = 41 → k ≤ 40 → e ≤ n → tokR B U (zTok B n e) → U 27 = 0 → U 22 = iI n → R 0 = iI k → ((zRd B n cost q e k).2.1 = 0 → ∃ R' P' V, f_M_text_73 N (q + (fuel + 1)) (hW A m h R P U) m (iI cost) = f_M_text_95 N (hW A m h R' P' V) m (iI cost) ∧ (∀ j, j ∉ tkF → V j = U j) ∧ rdS R' P' k (zRd B n cost q e k).1 ∧ (∀ j, 0 < j → j < 1 + 4 * k → R' j = R j) ∧ ∀ j, j < k → P' j = P j) ∧ ((zRd B n cost q e k).2.1 ≠ 0 → ∃ R' P' V, f_M_text_73 N (q + (fuel + 1)) (hW A m h R P U) m (iI cost) = f_M_text_95 N (hW A m h R' P' V) m (iI cost) ∧ (∀ j, j ∉ tkF → j ≠ 27 → j ≠ 28 → V j = U j) ∧ V 27 = iI (zRd B n cost q e k).2.1 ∧ V 28 = iI (zRd B n cost q e k).2.2) := by
  have M := T.1
  intro q
  induction q with
  | zero => intro k e R P U fuel h1 h2; omega
  | succ q ih =>
    intro k e R P U fuel hq hk he t h27 h22 hR
    have hr := zTok_rng (B := B) he
    rw [show q + 1 + (fuel + 1) = (q + (fuel + 1)) + 1 by omega]
    rw [zRd]
    by_cases q0 : (zTok B n e).1 = 0
    · rw [if_pos q0]
      refine ⟨fun _ => ⟨R, P, U, ?_, fun _ _ => rfl, ⟨by rw [hR]; rfl, fun i hi => absurd hi (Nat.not_lt_zero _)⟩, fun _ _ _ => rfl, fun _ _ => rfl⟩, fun z => absurd rfl z⟩
      conv => lhs; unfold f_M_text_73
      rw [gI_w M, h27, if_pos rfl, gI_w M, t.2.1, if_pos (show iI (zTok B n e).1 = (0 : Int32) by rw [q0]; rfl)]
    · have st : f_M_text_73 N ((q + (fuel + 1)) + 1) (hW A m h R P U) m (iI cost) = cl (f_M_readClause N (hW A m h R P U) m (iI cost)) fun _ h4 => f_M_text_73 N (q + (fuel + 1)) h4 m (iI cost) := by
        conv => lhs; unfold f_M_text_73
        rw [gI_w M, h27, if_pos rfl, gI_w M, t.2.1, if_neg (show ¬ iI (zTok B n e).1 = (0 : Int32) from fun z => q0 ((iI_eq (b := 0) (by omega) (by omega)).mp z)), cv_w M]
      rw [if_neg q0, st]
      obtain ⟨c1, c2, c3⟩ := readClause_u N hN X T he t h27 h22 hk hR hc (P := P)
      have flt : ∀ (f : Int) (p : Nat), 1 ≤ f ∧ f ≤ 3 → FltS A m h U f p (f_M_readClause N (hW A m h R P U) m (iI cost)) → ∃ R' P' V, (cl (f_M_readClause N (hW A m h R P U) m (iI cost)) fun _ h4 => f_M_text_73 N (q + (fuel + 1)) h4 m (iI cost)) = f_M_text_95 N (hW A m h R' P' V) m (iI cost) ∧ (∀ j, j ∉ tkF → j ≠ 27 → j ≠ 28 → V j = U j) ∧ V 27 = iI f ∧ V 28 = iI p := fun f p hf fs => by
        obtain ⟨R', P', V, w1, w2, w3, w4⟩ := fs
        refine ⟨R', P', V, ?_, w2, w3, w4⟩
        rw [w1, cl_s, show q + (fuel + 1) = (q + fuel) + 1 by omega]
        conv => lhs; unfold f_M_text_73
        rw [gI_w M, w3, if_neg (show ¬ iI f = (0 : Int32) from fun z => by have := (iI_eq (b := 0) (by omega) (by omega)).mp z; omega)]
      by_cases q1 : zKd B (zTok B n e) = -1
      · rw [if_pos q1]
        exact ⟨fun z => absurd (show (1 : Int) = 0 from z) (by decide), fun _ => flt 1 _ (by omega) (c1 q1)⟩
      rw [if_neg q1]
      by_cases q2 : 40 ≤ k
      · rw [if_pos q2]
        exact ⟨fun z => absurd (show (3 : Int) = 0 from z) (by decide), fun _ => flt 3 _ (by omega) (c2 q1 q2)⟩
      rw [if_neg q2]
      obtain ⟨d1, d2⟩ := c3 q1 q2
      have fr := zCf_rng B n (zKd B (zTok B n e)) cost (zTok B n e).2.2
      by_cases q3 : zCf B n (zKd B (zTok B n e)) cost (zTok B n e).2.2 = 0
      · rw [if_pos q3]
        obtain ⟨V, v1, v2, v3⟩ := d1 q3
        have ce := zCe_rng (B := B) (zKd B (zTok B n e)) hr.1.2.2
        rw [v1, cl_s]
        generalize hR1 : rcR R k (zKd B (zTok B n e)) (zFw B n (zKd B (zTok B n e)) (zTok B n e).2.2) (zSw B n (zKd B (zTok B n e)) (zFe B n (zKd B (zTok B n e)) (zTok B n e).2.2)) = R1 at *
        have R10 : R1 0 = iI ((k + 1 : Nat) : Int) := by rw [← hR1]; unfold rcR; rw [upd_a, hR, show (1 : Int32) = iI 1 from rfl, iI_add]; rfl
        obtain ⟨i1, i2⟩ := ih (k + 1) (zCe B n (zKd B (zTok B n e)) (zTok B n e).2.2) R1 (upd P k (iI (zTok B n e).2.1)) V fuel (by omega) (by omega) ce.2 v3 (by rw [v2 27 (by decide), h27]) (by rw [v2 22 (by decide), h22]) R10
        refine ⟨fun z => ?_, fun z => ?_⟩
        · obtain ⟨R', P', W, w1, w2, w3, w4, w5⟩ := i1 z
          refine ⟨R', P', W, w1, fun j hj => by rw [w2 j hj, v2 j hj], ⟨by rw [w3.1, List.length_cons]; congr 2; omega, fun i hi => ?_⟩, fun j j1 j2 => ?_, fun j hj => ?_⟩
          · cases i with
            | zero =>
              show R' (1 + 4 * (k + 0)) = iI (zKd B (zTok B n e)) ∧ R' (2 + 4 * (k + 0)) = iI (zFw B n (zKd B (zTok B n e)) (zTok B n e).2.2) ∧ R' (3 + 4 * (k + 0)) = iI (zSw B n (zKd B (zTok B n e)) (zFe B n (zKd B (zTok B n e)) (zTok B n e).2.2)) ∧ R' (4 + 4 * (k + 0)) = 0 ∧ P' (k + 0) = iI ((zTok B n e).2.1 : Int)
              rw [w4 _ (by omega) (by omega), w4 _ (by omega) (by omega), w4 _ (by omega) (by omega), w4 _ (by omega) (by omega), w5 _ (by omega), ← hR1]
              unfold rcR
              simp only [Nat.add_zero]
              refine ⟨?_, ?_, ?_, ?_, upd_a _ _ _⟩
              · rw [upd_o (by omega), upd_o (by omega), upd_o (by omega), upd_o (by omega), upd_a]
              · rw [upd_o (by omega), upd_o (by omega), upd_o (by omega), upd_a]
              · rw [upd_o (by omega), upd_o (by omega), upd_a]
              · rw [upd_o (by omega), upd_a]
            | succ i =>
              have := w3.2 i (by simp only [List.length_cons] at hi; omega)
              rw [show k + 1 + i = k + (i + 1) by omega] at this
              exact this
          · rw [w4 j j1 (by omega), ← hR1]
            unfold rcR
            rw [upd_o (by omega), upd_o (by omega), upd_o (by omega), upd_o (by omega), upd_o (by omega)]
          · rw [w5 j (by omega), upd_o (by omega)]
        · obtain ⟨R', P', W, w1, w2, w3⟩ := i2 z
          exact ⟨R', P', W, w1, fun j j1 j2 j3 => by rw [w2 j j1 j2 j3, v2 j j1], w3⟩
      · rw [if_neg q3]
        exact ⟨fun z => absurd z q3, fun _ => flt (zCf B n (zKd B (zTok B n e)) cost (zTok B n e).2.2) (zCp B n (zKd B (zTok B n e)) cost (zTok B n e).2.2) (by omega) (d2 q3)⟩
end
