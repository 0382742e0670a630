/-! THE REFERENCE'S ASKERS, beside the class's: paid -/
section
variable {ρ : Nat → Nat} {A : Nat → Nat} {m : Nat} {h g u : hS} {F F' : FT}
theorem RM.failX (X : RM ρ A m h F) {k : Int32} {α : Type} {ans : α} {r : Option (α × hS)} (e : r = some (ans, s_i (s_i h m 1 0) m 1 k)) : RX ρ A m h ans F k r := by
  obtain ⟨X1, c1⟩ := X.code 0
  obtain ⟨X2, c2⟩ := X1.code k
  exact X.x (c1.trans c2) X2 e (code_a _ m k)
theorem paid_M (N : Nat) (hN : 30000 ≤ N) (X : RM ρ A m h F) {c x i : Int} (hc : i32 c) (hx : i32 x) (hi : i32 i) : (¬ isSt F.1.1 c i → RX ρ A m h (0 : Int64) F 1 (f_M_paid N h m (iI c) (iI x) (iI i))) ∧ (isSt F.1.1 c i → RX ρ A m h (if -100000 ≤ x ∧ x ≤ 100000 then lI (zPaid F.1.1 c.toNat x i.toNat) else 0) F (if -100000 ≤ x ∧ x ≤ 100000 then 0 else 2) (f_M_paid N h m (iI c) (iI x) (iI i))) := by
  obtain ⟨X1, c1⟩ := X.code 0
  have M1 := X1.1.1
  constructor
  · intro q
    refine X.failX ?_
    unfold f_M_paid
    rw [pI_at X.1.1, cv_at M1, isStepM_n N X1 hc hi q, cl_s, if_pos rfl, cv_at M1, failM N X1, cl_s]
    rfl
  · intro q
    by_cases q3 : -100000 ≤ x ∧ x ≤ 100000
    · rw [if_pos q3, if_pos q3]
      obtain ⟨qc, qi⟩ := id q
      obtain ⟨n1, n2⟩ := n4 qc
      have hil : i.toNat < (F.1.1 c.toNat).1 := by omega
      have v := (X.2.2.2.2.1.2.1 c.toNat n1)
      have h40 := v.1
      have oa := (v.2.1 i.toNat hil).1
      obtain ⟨M1', s1⟩ := X1.rs
      obtain ⟨G', e, f, gk, t, pp⟩ := tellPath_S N (by omega) M1 (h_i (s_i h m 1 0)) s1 (c := c.toNat) n1 q3
      rw [w_i_self, n2] at e
      have bd := zPd_b s1 n1 q3 ((F.1.1 c.toNat).1 - (i.toNat + 1)) (by omega)
      have p1 := pp (i.toNat + 1) (by omega)
      obtain ⟨p, hp⟩ : ∃ p, p = zPath F.1.1 c.toNat x (i.toNat + 1) := ⟨_, rfl⟩
      rw [show zPd (F.1.1 c.toNat).2.1 (F.1.1 c.toNat).2.2 (F.1.1 c.toNat).1 x ((F.1.1 c.toNat).1 - (i.toNat + 1)) = p from hp.symm] at p1 bd
      obtain ⟨h2, hh2⟩ : ∃ h2, h2 = w_i (s_i h m 1 0) G' := ⟨_, rfl⟩
      have f2 := f.m
      obtain ⟨X2, _, _⟩ := X1.fr f2
      rw [← hh2] at X2 f2 e
      have M2 := X2.1.1
      have i30 : h_i h2 (A 30) (i.toNat + 1) = iI p := by rw [hh2]; exact p1
      have k1' : h_i h2 m 1 = 0 := by rw [hh2]; show G' m 1 = 0; rw [gk]; exact code_a h m 0
      have sa := fun w hw => stepAtM N X2 (c := c.toNat) (i := i.toNat) (w := w) n1 hil hw
      rw [n2, show ((i.toNat : Nat) : Int) = i by omega] at sa
      obtain ⟨r1, r2, r3⟩ := X2.2.2.2.2.1.1.1 c.toNat n1
      obtain ⟨b1, b2, b3, tt, b4, b5⟩ := r3 i.toNat hil
      have s3 := stepAt_is N M2 (h_i h2) n1 (show i.toNat < 40 by omega) (show 3 < 4 by omega)
      rw [w_i_self, n2, show ((i.toNat : Nat) : Int) = i by omega, b4] at s3
      obtain ⟨⟨kd, a, w⟩, hk⟩ : ∃ k, k = (F.1.1 c.toNat).2.1 i.toNat := ⟨_, rfl⟩
      have zp : zPaid F.1.1 c.toNat x i.toNat = zPay kd a w ((F.1.1 c.toNat).2.2 i.toNat) p := by unfold zPaid; rw [← hk, ← hp]
      rw [zp]
      rw [← hk] at sa oa b5
      simp only [] at sa oa b5
      have s0' := sa 0 (by omega)
      have s1' := sa 1 (by omega)
      have s2' := sa 2 (by omega)
      rw [if_pos rfl] at s0'
      rw [if_neg (by decide), if_pos rfl] at s1'
      rw [if_neg (by decide), if_neg (by decide)] at s2'
      have ok : ∀ r : Int64, f_M_paid N h m (iI c) (iI x) (iI i) = some (r, h2) → r = lI (zPay kd a w ((F.1.1 c.toNat).2.2 i.toNat) p) → RX ρ A m h (lI (zPay kd a w ((F.1.1 c.toNat).2.2 i.toNat) p)) F 0 (f_M_paid N h m (iI c) (iI x) (iI i)) := fun r e1 e2 => X.x (c1.trans f2.c) X2 (by rw [e1, e2]) k1'
      have ne : ∀ k : Int, -100 ≤ k ∧ k ≤ 100 → kd ≠ k → ¬ iI kd = iI k := fun k hk hne z => hne ((iI_eq (by have := oa.1; omega) (by omega)).mp z)
      have ei : iI i + (1 : Int32) = iI ((i.toNat + 1 : Nat) : Int) := by rw [show (1 : Int32) = iI 1 from rfl, iI_add]; congr 1; omega
      have m30 : (30, 50, 41) ∈ mrows := by decide
      have m7 : (7, 60, 1000) ∈ mrows := by decide
      obtain ⟨o1, o2, o3, o4, o7⟩ := oa
      unfold f_M_paid at ok ⊢
      rw [pI_at X.1.1, cv_at M1, isStepM_y N X1 q, cl_s, if_neg (by decide), isX_y N _ q3, cl_s, if_neg (by decide), cv_at M1, e, cl_s, cv_at M2, show (1 : Int32) = iI ((1 : Nat) : Int) from rfl, s1', cl_s, cv_at M2, show (2 : Int32) = iI ((2 : Nat) : Int) from rfl, s2', cl_s, bn_i, gR_at M2 m30, show iI i + iI ((1 : Nat) : Int) = iI ((i.toNat + 1 : Nat) : Int) from ei, aI_iI (z := ((i.toNat + 1 : Nat) : Int)) (M2.ro (i := 30) (n := 41) m30) (by omega) (by omega) (by omega), Int.toNat_natCast, i30, cv_at M2, show (0 : Int32) = iI ((0 : Nat) : Int) from rfl, s0', cl_s] at ok ⊢
      unfold f_M_paid_191 at ok ⊢
      unfold zPay at ok ⊢
      by_cases h0 : kd = 0
      · have := o2 (by omega)
        refine ok _ (by rw [if_pos (show iI kd = iI ((0 : Nat) : Int) by rw [h0]; rfl)]) ?_
        rw [if_pos h0, iI_sub, jab_is (by omega), iI_l (by omega) (by omega), iI_l (by split <;> omega) (by split <;> omega), lI_mul]
      rw [if_neg (show ¬ iI kd = iI ((0 : Nat) : Int) from ne 0 (by omega) h0)] at ok ⊢
      rw [if_neg h0] at ok ⊢
      by_cases h1 : kd = 1
      · have := o2 (by omega)
        refine ok _ (by rw [if_pos (show iI kd = iI ((1 : Nat) : Int) by rw [h1]; rfl)]) ?_
        rw [if_pos h1, iI_sub, show iI ((0 : Nat) : Int) = iI 0 from rfl, jmx_is (by omega) (by omega), iI_l (by omega) (by omega), iI_l (by omega) (by omega), lI_mul, Int.max_comm]
      rw [if_neg (show ¬ iI kd = iI ((1 : Nat) : Int) from ne 1 (by omega) h1)] at ok ⊢
      rw [if_neg h1] at ok ⊢
      by_cases h2' : kd = 2
      · have := o2 (by omega)
        refine ok _ (by rw [if_pos (show iI kd = iI ((2 : Nat) : Int) by rw [h2']; rfl)]) ?_
        rw [if_pos h2', iI_sub, show iI ((0 : Nat) : Int) = iI 0 from rfl, jmx_is (by omega) (by omega), iI_l (by omega) (by omega), iI_l (by omega) (by omega), lI_mul, Int.max_comm]
      rw [if_neg (show ¬ iI kd = iI ((2 : Nat) : Int) from ne 2 (by omega) h2')] at ok ⊢
      rw [if_neg h2'] at ok ⊢
      by_cases h3 : kd = 3
      · exact ok _ (by rw [if_pos (show iI kd = (3 : Int32) by rw [h3]; rfl)]) (by rw [if_neg (by omega), if_neg (by omega)]; rfl)
      rw [if_neg (show ¬ iI kd = (3 : Int32) from ne 3 (by omega) h3)] at ok ⊢
      by_cases h4 : kd = 4
      · exact ok _ (by rw [if_pos (show iI kd = (4 : Int32) by rw [h4]; rfl)]) (by rw [if_neg (by omega), if_neg (by omega)]; rfl)
      rw [if_neg (show ¬ iI kd = (4 : Int32) from ne 4 (by omega) h4)] at ok ⊢
      by_cases h5 : kd = 5
      · exact ok _ (by rw [if_pos (show iI kd = (5 : Int32) by rw [h5]; rfl)]) (by rw [if_neg (by omega), if_neg (by omega)]; rfl)
      rw [if_neg (show ¬ iI kd = (5 : Int32) from ne 5 (by omega) h5)] at ok ⊢
      by_cases h6 : kd = 6
      · exact ok _ (by rw [if_pos (show iI kd = (6 : Int32) by rw [h6]; rfl)]) (by rw [if_neg (by omega), if_neg (by omega)]; rfl)
      rw [if_neg (show ¬ iI kd = (6 : Int32) from ne 6 (by omega) h6)] at ok ⊢
      by_cases h7 : kd = 7
      · have := o7 h7
        exact ok _ (by rw [if_pos (show iI kd = (7 : Int32) by rw [h7]; rfl)]) (by rw [if_pos h7, iI_l (by omega) (by omega)])
      rw [if_neg (show ¬ iI kd = (7 : Int32) from ne 7 (by omega) h7)] at ok ⊢
      have h8 : kd = 8 := by omega
      obtain ⟨ct, t1, t2, t3, t4, t5, t6⟩ := b5 h8
      have r7 := M2.2.1 (7, 60, 1000) m7
      have et : tt = ((tt.toNat : Nat) : Int) := by omega
      refine ok (lI (zVal (zi (h_i h2 ct)) p)) ?_ ?_
      · rw [if_pos (show iI kd = (8 : Int32) by rw [h8]; rfl), gR_at M2 m7, cv_at M2, show (3 : Int32) = iI ((3 : Nat) : Int) from rfl, s3, cl_s, et, aR_i (m := 1000) r7.2.1 r7.2.2 (show tt.toNat < 1000 by omega) (by omega), t2, nn_s, valueAt_is N (by omega) t3 (by omega) (by omega), cl_s]
      · rw [if_neg h7, if_pos h8, zVal_congr t5]
    · rw [if_neg q3, if_neg q3]
      refine X.failX ?_
      unfold f_M_paid
      rw [pI_at X.1.1, cv_at M1, isStepM_y N X1 q, cl_s, if_neg (by decide), isX_n N _ hx q3, cl_s, if_pos rfl, cv_at M1, failM N X1, cl_s]
      rfl
end
