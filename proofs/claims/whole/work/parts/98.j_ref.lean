/-! THE REFERENCE: told -/
theorem zDig_rng {r : Int} (hr : 0 ≤ r ∧ r ≤ 999) : ∀ e ∈ zDig r, 0 ≤ e ∧ e ≤ 127 := fun e he => by
  unfold zDig at he
  rw [List.mem_append, List.mem_append] at he
  rcases he with z | z | z
  · split at z
    · rw [List.mem_singleton] at z; omega
    · cases z
  · split at z
    · rw [List.mem_singleton] at z; omega
    · cases z
  · rw [List.mem_singleton] at z; omega
theorem zNumb_rng {a : Int} (ha : -999 ≤ a ∧ a ≤ 999) : ∀ e ∈ zNumb a, 0 ≤ e ∧ e ≤ 127 := fun e he => by
  unfold zNumb at he
  rw [List.mem_append, List.mem_append] at he
  rcases he with z | z | z
  · rw [List.mem_singleton] at z; omega
  · split at z
    · rw [List.mem_singleton] at z; omega
    · cases z
  · exact zDig_rng (by split <;> omega) e z
theorem vC.nums {x : ChT} (v : vC x) {i : Nat} (hi : i < x.1) : (1 ≤ zNum (x.2.1 i).1 → -999 ≤ (x.2.1 i).2.1 ∧ (x.2.1 i).2.1 ≤ 999) ∧ (zNum (x.2.1 i).1 = 2 → 0 ≤ (x.2.1 i).2.2 ∧ (x.2.1 i).2.2 ≤ 99) := by
  have v8 := (v.2.1 i hi).2
  obtain ⟨o1, o2, o3, o4, o7⟩ := (v.2.1 i hi).1
  generalize x.2.1 i = p at *
  obtain ⟨kd, a, b⟩ := p
  simp only [] at *
  refine ⟨fun z => ?_, fun z => ?_⟩
  · by_cases z2 : kd ≤ 2
    · have := (o2 z2).1; omega
    by_cases z3 : kd = 3
    · have := o3 z3; omega
    by_cases z4 : kd = 4
    · have := (o4 z4).1; omega
    by_cases z7 : kd = 7
    · have := o7 z7; omega
    by_cases z8 : kd = 8
    · have := (v8 z8).2; omega
    · unfold zNum at z
      rw [if_neg (by omega), if_pos (by omega)] at z
      exact absurd z (by decide)
  · by_cases z2 : kd ≤ 2
    · exact (o2 z2).2
    by_cases z4 : kd = 4
    · exact (o4 z4).2
    · unfold zNum at z
      rw [if_neg (by omega)] at z
      split at z <;> exact absurd z (by decide)
theorem zTx_rng {x : ChT} (v : vC x) : ∀ (q i : Nat), i + q = x.1 → ∀ e ∈ zTx x.2.1 q i, 0 ≤ e ∧ e ≤ 127 := by
  intro q
  induction q with
  | zero => intro i _ e he; cases he
  | succ q ih =>
    intro i hi e he
    rw [zTx, List.mem_append] at he
    rcases he with z | z
    · obtain ⟨n1, n2⟩ := v.nums (i := i) (by omega)
      unfold zStp at z
      rw [List.mem_append, List.mem_append, List.mem_append] at z
      rcases z with z | z | z | z
      · have := zWord_rng _ e z; omega
      · split at z
        · rename_i y; exact zNumb_rng (n1 y) e z
        · cases z
      · split at z
        · rename_i y; exact zNumb_rng (by have := n2 y; omega) e z
        · cases z
      · rw [List.mem_singleton] at z; omega
    · exact ih (i + 1) (by omega) e z
section
variable {ρ : Nat → Nat} {A : Nat → Nat} {m : Nat} {h g u : hS} {F F' : FT}
theorem told_M (N : Nat) (hN : 30000 ≤ N) (X : RM ρ A m h F) {c w : Int} (hc : i32 c) (hw : i32 w) : RX ρ A m h (if (0 ≤ c ∧ c ≤ 3) ∧ (w = -1 ∨ (0 ≤ w ∧ w < (zTold F.1.1 c.toNat).length)) then iI (if w = -1 then (zTold F.1.1 c.toNat).length else (zTold F.1.1 c.toNat).getD w.toNat 0) else 0) F (if (0 ≤ c ∧ c ≤ 3) ∧ (w = -1 ∨ (0 ≤ w ∧ w < (zTold F.1.1 c.toNat).length)) then 0 else 1) (f_M_told N h m (iI c) (iI w)) := by
  obtain ⟨X1, c1⟩ := X.code 0
  have M1 := X1.1.1
  have hw' := hw
  unfold i32 at hw'
  by_cases qc : 0 ≤ c ∧ c ≤ 3
  · obtain ⟨n1, n2⟩ := n4 qc
    have v := X.2.2.2.2.1.2.1 c.toNat n1
    have v40 := v.1
    obtain ⟨U, hU⟩ : ∃ U, U = upd (upd (upd (h_i (s_i h m 1 0) m) 38 (iI w)) 40 (-1)) 39 0 := ⟨_, rfl⟩
    have u : UK m (s_i h m 1 0) w U 0 := by
      refine ⟨fun k hk => ?_, by rw [hU, upd_o (by decide), upd_o (by decide), upd_a], by rw [hU, upd_a]; rfl⟩
      have ne : ∀ j, j ∈ scF → k ≠ j := fun j hj e => hk (by rw [e]; exact hj)
      rw [hU, upd_o (ne 39 (by decide)), upd_o (ne 40 (by decide)), upd_o (ne 38 (by decide))]
    have u40 : U 40 = -1 := by rw [hU, upd_o (by decide), upd_a]
    obtain ⟨V, v1, v2⟩ := tell7 N hN X1 hw n1 (F.1.1 c.toNat).1 0 0 (N - (F.1.1 c.toNat).1 - 1) U (by omega) u (by omega)
    rw [show (F.1.1 c.toNat).1 + (N - (F.1.1 c.toNat).1 - 1 + 1) = N by omega, n2] at v1
    have rg := zTx_rng v (F.1.1 c.toNat).1 0 (by omega)
    have ln := zTx_len (F.1.1 c.toNat).2.1 (F.1.1 c.toNat).1 0
    have hL : zTold F.1.1 c.toNat = zTx (F.1.1 c.toNat).2.1 (F.1.1 c.toNat).1 0 := rfl
    rw [hL]
    generalize zTx (F.1.1 c.toNat).2.1 (F.1.1 c.toNat).1 0 = L at *
    obtain ⟨t1, t2, t3⟩ := v2
    rw [Nat.zero_add] at t2
    have uV : UK m (s_i h m 1 0) w V L.length := by
      have := u.tl (V := V) (L := L) ⟨t1, by rw [Nat.zero_add]; exact t2, t3⟩
      rw [Nat.zero_add] at this
      exact this
    have XV := X1.uk uV
    have fV : frM A m (s_i h m 1 0) (s_w (s_i h m 1 0) m V) := uV.f
    have MV := XV.1.1
    have kV : h_i (s_w (s_i h m 1 0) m V) m 1 = 0 := by
      rw [h_i_sw, if_pos rfl, t1 1 (by decide) (by decide), hU, upd_o (by decide), upd_o (by decide), upd_o (by decide)]
      exact code_a h m 0
    have w1 : s_i h m 1 0 = s_w (s_i h m 1 0) m (h_i (s_i h m 1 0) m) := (s_w_self _ _).symm
    have st : f_M_told N h m (iI c) (iI w) = if iI w = (-1 : Int32) then some (V 39, s_w (s_i h m 1 0) m V) else (if V 40 = (-1 : Int32) then (cl (f_M_fail N (s_w (s_i h m 1 0) m V) m (1 : Int32)) fun v10 h11 => some (v10, h11)) else some (V 40, s_w (s_i h m 1 0) m V)) := by
      unfold f_M_told f_M_told_66
      rw [pI_at X.1.1, cv_at M1, isCost_y N _ _ qc, cl_s, if_neg (by decide)]
      conv => lhs; rw [w1]
      rw [pI_u M1, pI_u M1, cv_u M1]
      unfold f_M_tellSteps
      rw [pI_u M1, ← hU]
      rw [show f_M_tellSteps_7 N N (s_w (s_i h m 1 0) m U) m (iI c) (0 : Int32) = some ((), s_w (s_i h m 1 0) m V) from v1, cl_s, gI_u M1, gI_u M1, gI_u M1, cv_u M1]
    have em : iI w = (-1 : Int32) ↔ w = -1 := ⟨fun z => (iI_eq (b := -1) (by omega) (by omega)).mp (z.trans (by decide)), fun z => by rw [z]; decide⟩
    by_cases q1 : w = -1
    · have yy : (0 ≤ c ∧ c ≤ 3) ∧ (w = -1 ∨ (0 ≤ w ∧ w < (L.length : Int))) := ⟨qc, Or.inl q1⟩
      rw [if_pos yy, if_pos yy, if_pos q1]
      rw [if_pos (em.mpr q1), t2] at st
      exact X.x (c1.trans fV.c) XV st kV
    · rw [if_neg (fun z => q1 (em.mp z))] at st
      by_cases q2 : 0 ≤ w ∧ w < L.length
      · have yy : (0 ≤ c ∧ c ≤ 3) ∧ (w = -1 ∨ (0 ≤ w ∧ w < (L.length : Int))) := ⟨qc, Or.inr q2⟩
        rw [if_pos yy, if_pos yy, if_neg q1]
        have hi := hear_in w L ((0 : Nat) : Int) (U 40) (by omega) (by omega)
        rw [show (w - ((0 : Nat) : Int)).toNat = w.toNat by congr 1; omega] at hi
        have t3' : V 40 = iI (L.getD w.toNat 0) := t3.trans hi
        have gb : 0 ≤ L.getD w.toNat 0 ∧ L.getD w.toNat 0 ≤ 127 := by
          rw [List.getD_eq_getElem?_getD, List.getElem?_eq_getElem (show w.toNat < L.length by omega)]
          exact rg _ (List.getElem_mem _)
        rw [t3', if_neg (fun z => by have := (iI_eq (b := -1) (by omega) (by omega)).mp (z.trans (by decide)); omega)] at st
        exact X.x (c1.trans fV.c) XV st kV
      · have nn' : ¬ ((0 ≤ c ∧ c ≤ 3) ∧ (w = -1 ∨ (0 ≤ w ∧ w < (L.length : Int)))) := fun z => z.2.elim q1 q2
        rw [if_neg nn', if_neg nn']
        have ho := hear_out w L ((0 : Nat) : Int) (U 40) (by omega)
        have t3' : V 40 = -1 := t3.trans (ho.trans u40)
        rw [t3', if_pos rfl, failM N XV, cl_s] at st
        obtain ⟨X2, c2⟩ := XV.code 1
        exact X.x ((c1.trans fV.c).trans c2) X2 st (code_a _ m 1)
  · rw [if_neg (fun z => qc z.1), if_neg (fun z => qc z.1)]
    refine X.failX ?_
    unfold f_M_told
    rw [pI_at X.1.1, cv_at M1, isCost_n N _ _ hc qc, cl_s, if_pos rfl, cv_at M1, failM N X1, cl_s]
end
