/-! THE REFERENCE: SHARING: split, where, shared -/
section
variable {ρ : Nat → Nat} {A : Nat → Nat} {m : Nat} {h g u : hS} {F F' : FT} {a b : Nat} {C : Cs}
theorem RM.inv (X : RM ρ A m h F) {c : Nat} (hc : c < 4) : zInv (zC F.1.1 c) := by
  obtain ⟨_, _, _, _, _, iv, _⟩ := tell_S 30000 (by omega) X.rs.1 (h_i h) X.rs.2 hc
  exact iv
/-- these costs stand together in the reference's rows -/
def SHD (A : Nat → Nat) (m : Nat) (h : hS) (C : Cs) (cs : List Nat) : Prop := h_i h m 32 = iI (tLo C cs (-5000)) ∧ h_i h m 33 = iI (tHi C cs 5000) ∧ ∀ z : Int, tLo C cs (-5000) ≤ z → z ≤ tHi C cs 5000 → h_j h (A 31) (5000 + z).toNat = lI (-(gSum C cs z))
theorem SHD.f35 {cs : List Nat} (S : SHD A m h C cs) (v : Int32) : SHD A m (s_i h m 35 v) C cs := ⟨by rw [h_i_si, if_pos rfl, upd_o (by decide)]; exact S.1, by rw [h_i_si, if_pos rfl, upd_o (by decide)]; exact S.2.1, S.2.2⟩
theorem SHD.cg {cs : List Nat} (S : SHD A m h C cs) (e1 : h_i g m 32 = h_i h m 32) (e2 : h_i g m 33 = h_i h m 33) (e3 : h_j g = h_j h) : SHD A m g C cs := ⟨e1.trans S.1, e2.trans S.2.1, by rw [e3]; exact S.2.2⟩
theorem shM.rf : shM A m h h := ⟨frM.rf, rfl, fun _ _ => rfl⟩
theorem shM.mo (x : shM A m h g) (M : MO A m h) : MO A m g := M.rf x.1.1.1 x.1.1.2.1 x.1.1.2.2.1
theorem clear_sh (N : Nat) (hN : 30000 ≤ N) (M : MO A m h) (C : Cs) : ∃ g, f_M_clearStands N h m = some ((), g) ∧ shM A m h g ∧ SHD A m g C [] := by
  obtain ⟨h2, hh2⟩ : ∃ h2, h2 = s_i (s_i h m 32 (-5000)) m 33 5000 := ⟨_, rfl⟩
  have s2 : shM A m h h2 := by rw [hh2]; exact (shM.f 32 (by decide) (by decide) _).trans (shM.f 33 (by decide) (by decide) _)
  have M2 : MO A m h2 := s2.mo M
  obtain ⟨T, t1, t2⟩ := cs16 N M2 10001 0 (N - 10002) (h_j h2 (A 31)) (by omega) (fun j hj => absurd hj (Nat.not_lt_zero _))
  rw [show 10001 + (N - 10002 + 1) = N by omega, s_v_self] at t1
  refine ⟨s_v h2 (A 31) T, ?_, s2.trans (shM.v 31 (by decide) T), ?_, ?_, fun z z1 z2 => ?_⟩
  · unfold f_M_clearStands
    rw [pI_at M, pI_at (h := s_i h m 32 (-5000)) M, ← hh2]
    exact t1
  · show h_i h2 m 32 = iI (-5000)
    rw [hh2, h_i_si, if_pos rfl, upd_o (by decide), h_i_si, if_pos rfl, upd_a]
    decide
  · show h_i h2 m 33 = iI 5000
    rw [hh2, h_i_si, if_pos rfl, upd_a]
    rfl
  · have z1' : -5000 ≤ z := z1
    have z2' : z ≤ 5000 := z2
    rw [h_j_sv, if_pos rfl, t2 _ (by omega)]
    rfl
theorem sh_rng {cs : List Nat} (hv : ∀ c ∈ cs, zInv (zC C c)) : (-5000 ≤ tLo C cs (-5000) ∧ tLo C cs (-5000) ≤ 0) ∧ (0 ≤ tHi C cs 5000 ∧ tHi C cs 5000 ≤ 5000) := ⟨⟨(tLo_le C cs (-5000)).1, tLo_0 C cs (-5000) (by omega) (fun c hc => (hv c hc).1)⟩, tHi_0 C cs 5000 (by omega) (fun c hc => (hv c hc).1), (tHi_le C cs 5000).1⟩
theorem SHD.add (N : Nat) (hN : 30000 ≤ N) (M : MO A m h) {cs : List Nat} (S : SHD A m h C cs) (hv : ∀ c ∈ cs, zInv (zC C c)) (rb : ro h b 10003) (bm : b ≠ m) {c : Nat} (t : tEq (zi (h_i h b)) (zC C c)) (iv : zInv (zC C c)) : ∃ g, f_M_addStands N h m b = some ((), g) ∧ shM A m h g ∧ SHD A m g C (cs ++ [c]) := by
  obtain ⟨r1, r2⟩ := sh_rng hv
  obtain ⟨g, e, s, ⟨f1, f2⟩, j⟩ := addStands_is N hN M rb bm (t.symm.inv iv) S.1 S.2.1 (by omega) (by omega)
  refine ⟨g, e, s, by rw [f1, tLo_app, t 0 (by omega)], by rw [f2, tHi_app, zS_congr t], fun z z1 z2 => ?_⟩
  rw [tLo_app] at z1
  rw [tHi_app] at z2
  have z1' := Int.max_le.mp z1
  have z2' := Int.le_min.mp z2
  rw [j z (by rw [t 0 (by omega)]; exact z1'.2) (by rw [zS_congr t]; exact z2'.2), S.2.2 z z1'.1 z2'.1, gSum_app, zCj_st iv.1.1 z1'.2 z2'.2, zCj_congr t, lI_add]
  congr 1
  omega
theorem tog39 (N : Nat) {cs : List Nat} {x : Int} (hv : ∀ c ∈ cs, zInv (zC C c)) (h4 : cs.length ≤ 4) (hx : -100000 ≤ x ∧ x ≤ 100000) : ∀ (q : Nat) (y b : Int) (fuel : Nat) (h : hS), MO A m h → SHD A m h C cs → h_i h m 35 = iI b → y + q = tHi C cs 5000 + 1 → tLo C cs (-5000) ≤ b → b < y → b ≤ tHi C cs 5000 → (∀ t, tLo C cs (-5000) ≤ t → t < b → tSum C cs (t + 1) < x) → (b = y - 1 ∨ x ≤ tSum C cs (b + 1)) → ∃ s g, f_M_together_39 N (q + (fuel + 1)) h m (iI x) (lI (b * x + gSum C cs b)) (iI y) = some (lI (s * x + gSum C cs s), g) ∧ zShS C cs x s ∧ h_i g m 35 = iI s ∧ shM A m h g := by
  have m31 : (31, 51, 10001) ∈ mrows := by decide
  have hvv : ∀ c ∈ cs, zVee (zC C c) := fun c hc => (hv c hc).1
  obtain ⟨r1, r2⟩ := sh_rng hv
  have bd : ∀ s : Int, tLo C cs (-5000) ≤ s → s ≤ tHi C cs 5000 → -2000000000000 ≤ s * x + gSum C cs s ∧ s * x + gSum C cs s ≤ 2000000000000 := fun s h1 h2 => by
    have g1 := gSum_bd (C := C) (s := s) (by omega) cs (fun c hc => ⟨hv c hc, Int.le_trans ((tLo_le C cs (-5000)).2 c hc) h1, Int.le_trans h2 ((tHi_le C cs 5000).2 c hc)⟩)
    have mb := mul_bd (s := s) (p := x) (a := 5000) (b := 100000) (by omega) (by omega)
    generalize s * x = u at *
    omega
  intro q
  induction q with
  | zero =>
    intro y b fuel h M S e35 hy b1 b2 b3 bt bx
    refine ⟨b, h, ?_, ⟨⟨b1, b3⟩, bt, by omega⟩, e35, shM.rf⟩
    rw [Nat.zero_add]
    unfold f_M_together_39
    rw [gI_at M, S.2.1, if_pos ((iI_lt (by omega) (by omega)).mpr (by omega))]
  | succ q ih =>
    intro y b fuel h M S e35 hy b1 b2 b3 bt bx
    have d1 := bd b b1 b3
    have d2 := bd y (by omega) (by omega)
    have st : f_M_together_39 N ((q + (fuel + 1)) + 1) h m (iI x) (lI (b * x + gSum C cs b)) (iI y) = if b * x + gSum C cs b < y * x + gSum C cs y then f_M_together_39 N (q + (fuel + 1)) (s_i h m 35 (iI y)) m (iI x) (lI (y * x + gSum C cs y)) (iI (y + 1)) else f_M_together_39 N (q + (fuel + 1)) h m (iI x) (lI (b * x + gSum C cs b)) (iI (y + 1)) := by
      conv => lhs; unfold f_M_together_39
      unfold f_M_together_87
      rw [gI_at M, S.2.1, if_neg (fun z => by have := (iI_lt (by omega) (by omega)).mp z; omega), gR_at M m31, idx5 (by omega) (by omega), aJ_i (n := 10001) (M.rl m31) (by omega) (by omega), S.2.2 y (by omega) (by omega), iI_l (by omega) (by omega), iI_l (by omega) (by omega), lI_mul, lI_sub, show y * x - -gSum C cs y = y * x + gSum C cs y by omega, bn_i, show iI y + (1 : Int32) = iI (y + 1) by rw [show (1 : Int32) = iI 1 from rfl, iI_add], pI_at M, bn_i, bn_i]
      by_cases z : b * x + gSum C cs b < y * x + gSum C cs y
      · rw [if_pos z, if_pos ((lg_gt0 (by omega) (by omega)).mpr z)]
      · rw [if_neg z, if_neg (fun w => z ((lg_gt0 (by omega) (by omega)).mp w))]
    rw [show q + 1 + (fuel + 1) = (q + (fuel + 1)) + 1 by omega, st]
    by_cases z : b * x + gSum C cs b < y * x + gSum C cs y
    · rw [if_pos z]
      have eb : b = y - 1 ∧ tSum C cs (b + 1) < x := by
        rcases Int.lt_or_le (tSum C cs (b + 1)) x with w | w
        · exact ⟨by omega, w⟩
        · have de := gSum_dec hvv b1 w (y - b).toNat (by omega)
          rw [show b + ((y - b).toNat : Int) = y by omega] at de
          omega
      obtain ⟨s, g, g1, g2, g3, g4⟩ := ih (y + 1) y fuel (s_i h m 35 (iI y)) M (S.f35 _) (by rw [h_i_si, if_pos rfl, upd_a]) (by omega) (by omega) (by omega) (by omega) (fun t t1 t2 => by
        by_cases e : t = b
        · rw [e]; exact eb.2
        · exact bt t t1 (by omega)) (Or.inl (by omega))
      exact ⟨s, g, g1, g2, g3, (shM.f 35 (by decide) (by decide) _).trans g4⟩
    · rw [if_neg z]
      refine ih (y + 1) b fuel h M S e35 (by omega) b1 (by omega) b3 bt (Or.inr ?_)
      rcases bx with w | w
      · have e := gSum_up hvv (s := b) b1 (by omega)
        have ey : y = b + 1 := by omega
        rw [ey, e, Int.add_mul, Int.one_mul] at z
        omega
      · exact w
theorem together_is (N : Nat) (hN : 30000 ≤ N) (M : MO A m h) {cs : List Nat} {x : Int} (S : SHD A m h C cs) (hv : ∀ c ∈ cs, zInv (zC C c)) (h4 : cs.length ≤ 4) (hx : -100000 ≤ x ∧ x ≤ 100000) : ∃ s g, f_M_together N h m (iI x) = some (lI (s * x + gSum C cs s), g) ∧ zShS C cs x s ∧ h_i g m 35 = iI s ∧ shM A m h g := by
  have m31 : (31, 51, 10001) ∈ mrows := by decide
  obtain ⟨r1, r2⟩ := sh_rng hv
  have M2 : MO A m (s_i h m 35 (iI (tLo C cs (-5000)))) := M
  have S2 := S.f35 (iI (tLo C cs (-5000)))
  obtain ⟨s, g, g1, g2, g3, g4⟩ := tog39 (A := A) (m := m) N hv h4 hx (tHi C cs 5000 - tLo C cs (-5000)).toNat (tLo C cs (-5000) + 1) (tLo C cs (-5000)) (N - (tHi C cs 5000 - tLo C cs (-5000)).toNat - 1) (s_i h m 35 (iI (tLo C cs (-5000)))) M2 S2 (by rw [h_i_si, if_pos rfl, upd_a]) (by omega) (by omega) (by omega) (by omega) (fun t t1 t2 => by omega) (Or.inl (by omega))
  rw [show (tHi C cs 5000 - tLo C cs (-5000)).toNat + (N - (tHi C cs 5000 - tLo C cs (-5000)).toNat - 1 + 1) = N by omega] at g1
  refine ⟨s, g, ?_, g2, g3, (shM.f 35 (by decide) (by decide) _).trans g4⟩
  unfold f_M_together
  rw [gI_at M, S.1, pI_at M, gI_at M2, S2.1, gR_at M2 m31, gI_at M2, S2.1, idx5 (by omega) (by omega), aJ_i (n := 10001) (M2.rl m31) (by omega) (by omega), S2.2.2 _ (by omega) (by omega), iI_l (by omega) (by omega), iI_l (by omega) (by omega), lI_mul, lI_sub, show tLo C cs (-5000) * x - -gSum C cs (tLo C cs (-5000)) = tLo C cs (-5000) * x + gSum C cs (tLo C cs (-5000)) by omega, bn_i, gI_at M2, S2.1, bn_i, show iI (tLo C cs (-5000)) + (1 : Int32) = iI (tLo C cs (-5000) + 1) by rw [show (1 : Int32) = iI 1 from rfl, iI_add]]
  exact g1
theorem splitNow_is (N : Nat) (hN : 30000 ≤ N) (X : RM ρ A m h F) {c d x : Int} (hc : 0 ≤ c ∧ c ≤ 3) (hd : 0 ≤ d ∧ d ≤ 3) (hx : -100000 ≤ x ∧ x ≤ 100000) : ∃ s g, f_M_splitNow N h m (iI c) (iI d) (iI x) = some (lI (s * x + gSum F.1.1 [c.toNat, d.toNat] s), g) ∧ zShS F.1.1 [c.toNat, d.toNat] x s ∧ h_i g m 35 = iI s ∧ (frM A m h g ∧ h_i g m 1 = h_i h m 1) ∧ (tEq (zi (h_i g (A 4))) (zC F.1.1 c.toNat) ∧ tEq (zi (h_i g (A 5))) (zC F.1.1 d.toNat)) ∧ zInv (zC F.1.1 c.toNat) ∧ zInv (zC F.1.1 d.toNat) := by
  have m4 : (4, 50, 10003) ∈ mrows := by decide
  have m5 : (5, 50, 10003) ∈ mrows := by decide
  obtain ⟨n1, n2⟩ := n4 hc
  obtain ⟨d1, d2⟩ := n4 hd
  obtain ⟨M, rs⟩ := X.rs
  obtain ⟨G', e1, f1, k1, t1, t2, z1, z2⟩ := tellBoth_S N (by omega) M (h_i h) rs n1 d1
  rw [w_i_self, n2, d2] at e1
  obtain ⟨h2, hh2⟩ : ∃ h2, h2 = w_i h G' := ⟨_, rfl⟩
  have f2 := f1.m
  rw [← hh2] at f2 e1
  have M2 : MO A m h2 := M.rf f2.1.1 f2.1.2.1 f2.1.2.2.1
  have k2 : h_i h2 m 1 = h_i h m 1 := by rw [hh2]; exact k1
  have t1' : tEq (zi (h_i h2 (A 4))) (zC F.1.1 c.toNat) := by rw [hh2]; exact t1
  have t2' : tEq (zi (h_i h2 (A 5))) (zC F.1.1 d.toNat) := by rw [hh2]; exact t2
  have n4m : A 4 ≠ m := M.ne m4 (by decide)
  have n5m : A 5 ≠ m := M.ne m5 (by decide)
  obtain ⟨h3, a1, s3, S3⟩ := clear_sh N hN M2 F.1.1
  have M3 := s3.mo M2
  obtain ⟨h4, b1, s4, S4⟩ := S3.add N hN M3 (fun c hc => by simp at hc) (M3.ro m4) n4m (c := c.toNat) (by rw [s3.2.2 _ n4m]; exact t1') z1
  have M4 := s4.mo M3
  have iv2 : ∀ e ∈ ([] : List Nat) ++ [c.toNat], zInv (zC F.1.1 e) := fun e he => by
    simp at he; rw [he]; exact z1
  obtain ⟨h5, c1, s5, S5⟩ := S4.add N hN M4 iv2 (M4.ro m5) n5m (c := d.toNat) (by rw [s4.2.2 _ n5m, s3.2.2 _ n5m]; exact t2') z2
  have M5 := s5.mo M4
  have iv3 : ∀ e ∈ ([] : List Nat) ++ [c.toNat] ++ [d.toNat], zInv (zC F.1.1 e) := fun e he => by
    simp at he
    rcases he with he | he
    · rw [he]; exact z1
    · rw [he]; exact z2
  obtain ⟨s, g, g1, g2, g3, g4⟩ := together_is N hN M5 S5 iv3 (by simp) hx
  have all := ((s3.trans s4).trans s5).trans g4
  refine ⟨s, g, ?_, g2, g3, ⟨f2.trans all.1, all.2.1.trans k2⟩, ⟨by rw [all.2.2 _ n4m]; exact t1', by rw [all.2.2 _ n5m]; exact t2'⟩, z1, z2⟩
  unfold f_M_splitNow
  rw [cv_at M, e1, cl_s, cv_at M2, a1, cl_s, gR_at M3 m4, nn_s, cv_at M3, b1, cl_s, gR_at M4 m5, nn_s, cv_at M4, c1, cl_s, cv_at M5, g1, cl_s]
  rfl
theorem refusal_is (N : Nat) (M : MO A m h) {c d x : Int} (hc : i32 c) (hd : i32 d) (hx : i32 x) : f_M_refusal N h m (iI c) (iI d) (iI x) = some (if (0 ≤ c ∧ c ≤ 3) ∧ (0 ≤ d ∧ d ≤ 3) then (if -100000 ≤ x ∧ x ≤ 100000 then (0 : Int32) else 2) else 1, h) := by
  unfold f_M_refusal f_M_refusal_16 f_M_refusal_32
  by_cases c1 : 0 ≤ c ∧ c ≤ 3
  · rw [cv_at M, isCost_y N _ _ c1, cl_s, if_neg (by decide)]
    by_cases d1 : 0 ≤ d ∧ d ≤ 3
    · rw [cv_at M, isCost_y N _ _ d1, cl_s, if_neg (by decide), if_pos (show (0 ≤ c ∧ c ≤ 3) ∧ (0 ≤ d ∧ d ≤ 3) from ⟨c1, d1⟩)]
      by_cases x1 : -100000 ≤ x ∧ x ≤ 100000
      · rw [isX_y N _ x1, cl_s, if_neg (by decide), if_pos x1]
      · rw [isX_n N _ hx x1, cl_s, if_pos rfl, if_neg x1]
    · rw [cv_at M, isCost_n N _ _ hd d1, cl_s, if_pos rfl, if_neg (show ¬ ((0 ≤ c ∧ c ≤ 3) ∧ (0 ≤ d ∧ d ≤ 3)) from fun z => d1 z.2)]
  · rw [cv_at M, isCost_n N _ _ hc c1, cl_s, if_pos rfl, if_neg (show ¬ ((0 ≤ c ∧ c ≤ 3) ∧ (0 ≤ d ∧ d ≤ 3)) from fun z => c1 z.1)]
theorem split_M (N : Nat) (hN : 30000 ≤ N) (X : RM ρ A m h F) {c d x : Int} (hc : i32 c) (hd : i32 d) (hx : i32 x) : ∃ s, (((0 ≤ c ∧ c ≤ 3) ∧ (0 ≤ d ∧ d ≤ 3)) ∧ (-100000 ≤ x ∧ x ≤ 100000) → zShS F.1.1 [c.toNat, d.toNat] x s) ∧ RX ρ A m h (if ((0 ≤ c ∧ c ≤ 3) ∧ (0 ≤ d ∧ d ≤ 3)) ∧ (-100000 ≤ x ∧ x ≤ 100000) then lI (s * x + gSum F.1.1 [c.toNat, d.toNat] s) else 0) F (if (0 ≤ c ∧ c ≤ 3) ∧ (0 ≤ d ∧ d ≤ 3) then (if -100000 ≤ x ∧ x ≤ 100000 then 0 else 2) else 1) (f_M_split N h m (iI c) (iI d) (iI x)) := by
  obtain ⟨X1, c1⟩ := X.code 0
  have M1 := X1.1.1
  have rf := refusal_is N M1 hc hd hx
  by_cases q : ((0 ≤ c ∧ c ≤ 3) ∧ (0 ≤ d ∧ d ≤ 3)) ∧ (-100000 ≤ x ∧ x ≤ 100000)
  · obtain ⟨s, g, e, zs, _, ⟨f1, k1⟩, _⟩ := splitNow_is N hN X1 q.1.1 q.1.2 q.2
    rw [if_pos q.1, if_pos q.2] at rf
    refine ⟨s, fun _ => zs, ?_⟩
    rw [if_pos q, if_pos q.1, if_pos q.2]
    refine X.x (c1.trans f1.c) (X1.fr f1).1 ?_ (k1.trans (code_a h m 0))
    unfold f_M_split f_M_split_36
    rw [pI_at X.1.1, cv_at M1, rf, cl_s, if_pos (by decide), cv_at M1, e, cl_s]
  · refine ⟨0, fun z => absurd z q, ?_⟩
    rw [if_neg q]
    have go : ∀ k : Int32, ¬ k ≤ 0 → f_M_refusal N (s_i h m 1 0) m (iI c) (iI d) (iI x) = some (k, s_i h m 1 0) → RX ρ A m h (0 : Int64) F k (f_M_split N h m (iI c) (iI d) (iI x)) := fun k hk rf => by
      refine X.failX ?_
      unfold f_M_split f_M_split_36
      rw [pI_at X.1.1, cv_at M1, rf, cl_s, if_neg hk, cv_at M1, failM N X1, cl_s]
      rfl
    by_cases q1 : (0 ≤ c ∧ c ≤ 3) ∧ (0 ≤ d ∧ d ≤ 3)
    · have q2 : ¬ (-100000 ≤ x ∧ x ≤ 100000) := fun z => q ⟨q1, z⟩
      rw [if_pos q1, if_neg q2] at rf ⊢
      exact go 2 (by decide) rf
    · rw [if_neg q1] at rf ⊢
      exact go 1 (by decide) rf
theorem where_M (N : Nat) (hN : 30000 ≤ N) (X : RM ρ A m h F) {c d x : Int} (hc : i32 c) (hd : i32 d) (hx : i32 x) : ∃ s, (((0 ≤ c ∧ c ≤ 3) ∧ (0 ≤ d ∧ d ≤ 3)) ∧ (-100000 ≤ x ∧ x ≤ 100000) → zShS F.1.1 [c.toNat, d.toNat] x s) ∧ RX ρ A m h (if ((0 ≤ c ∧ c ≤ 3) ∧ (0 ≤ d ∧ d ≤ 3)) ∧ (-100000 ≤ x ∧ x ≤ 100000) then iI (zWhr (zC F.1.1 c.toNat) (zC F.1.1 d.toNat) x s) else 0) F (if (0 ≤ c ∧ c ≤ 3) ∧ (0 ≤ d ∧ d ≤ 3) then (if -100000 ≤ x ∧ x ≤ 100000 then 0 else 2) else 1) (f_M_where N h m (iI c) (iI d) (iI x)) := by
  have m4 : (4, 50, 10003) ∈ mrows := by decide
  have m5 : (5, 50, 10003) ∈ mrows := by decide
  obtain ⟨X1, c1⟩ := X.code 0
  have M1 := X1.1.1
  have rf := refusal_is N M1 hc hd hx
  by_cases q : ((0 ≤ c ∧ c ≤ 3) ∧ (0 ≤ d ∧ d ≤ 3)) ∧ (-100000 ≤ x ∧ x ≤ 100000)
  · obtain ⟨s, g, e, zs, e35, ⟨f1, k1⟩, ⟨t1, t2⟩, z1, z2⟩ := splitNow_is N hN X1 q.1.1 q.1.2 q.2
    rw [if_pos q.1, if_pos q.2] at rf
    refine ⟨s, fun _ => zs, ?_⟩
    rw [if_pos q, if_pos q.1, if_pos q.2]
    refine X.x (c1.trans f1.c) (X1.fr f1).1 ?_ (k1.trans (code_a h m 0))
    have M2 := (X1.fr f1).1.1.1
    have sr := zs.1
    have l1 := (tLo_le F.1.1 [c.toNat, d.toNat] (-5000)).1
    have l2 := (tHi_le F.1.1 [c.toNat, d.toNat] 5000).1
    have sb1 := (t1.symm.inv z1).sb
    have sb2 := (t2.symm.inv z2).sb
    have a1 := turnsTo_is N (by omega) (M2.ro m4) sb1 (s := s) (by omega)
    have a2 := turnsTo_is N (by omega) (M2.ro m4) sb1 (s := s + 1) (by omega)
    have a3 := turnsTo_is N (by omega) (M2.ro m5) sb2 (s := s) (by omega)
    have a4 := turnsTo_is N (by omega) (M2.ro m5) sb2 (s := s + 1) (by omega)
    rw [zTurn_congr t1] at a1 a2
    rw [zTurn_congr t2] at a3 a4
    have r1 := zTurn_rng (zC F.1.1 c.toNat) s
    have r2 := zTurn_rng (zC F.1.1 c.toNat) (s + 1)
    have r3 := zTurn_rng (zC F.1.1 d.toNat) s
    have r4 := zTurn_rng (zC F.1.1 d.toNat) (s + 1)
    have q2 := q.2
    unfold f_M_where
    rw [pI_at X.1.1, cv_at M1, rf, cl_s, if_pos (by decide), cv_at M1, e, cl_s, gR_at M2 m4, gI_at M2, e35, nn_s, a1, cl_s, gR_at M2 m5, gI_at M2, e35, nn_s, show iI s + (1 : Int32) = iI (s + 1) by rw [show (1 : Int32) = iI 1 from rfl, iI_add], a4, cl_s, iI_sub, jmx_is (by omega) (by omega), bn_i, gR_at M2 m4, gI_at M2, e35, nn_s, show iI s + (1 : Int32) = iI (s + 1) by rw [show (1 : Int32) = iI 1 from rfl, iI_add], a2, cl_s, gR_at M2 m5, gI_at M2, e35, nn_s, a3, cl_s, iI_sub, jmn_is (by omega) (by omega), bn_i, show (0 : Int32) = iI 0 from rfl, nearest_is N _ (by omega) (by omega) (by omega), cl_s]
    rfl
  · refine ⟨0, fun z => absurd z q, ?_⟩
    rw [if_neg q]
    have go : ∀ k : Int32, ¬ k ≤ 0 → f_M_refusal N (s_i h m 1 0) m (iI c) (iI d) (iI x) = some (k, s_i h m 1 0) → RX ρ A m h (0 : Int32) F k (f_M_where N h m (iI c) (iI d) (iI x)) := fun k hk rf => by
      refine X.failX ?_
      unfold f_M_where
      rw [pI_at X.1.1, cv_at M1, rf, cl_s, if_neg hk, cv_at M1, failM N X1, cl_s]
    by_cases q1 : (0 ≤ c ∧ c ≤ 3) ∧ (0 ≤ d ∧ d ≤ 3)
    · have q2 : ¬ (-100000 ≤ x ∧ x ≤ 100000) := fun z => q ⟨q1, z⟩
      rw [if_pos q1, if_neg q2] at rf ⊢
      exact go 2 (by decide) rf
    · rw [if_neg q1] at rf ⊢
      exact go 1 (by decide) rf
theorem sh37 (N : Nat) (hN : 30000 ≤ N) {set x : Int} (hset : 1 ≤ set ∧ set ≤ 15) (hx : -100000 ≤ x ∧ x ≤ 100000) : ∀ (q c fuel : Nat) (h : hS) (pre : List Nat), c + q = 4 → RM ρ A m h F → SHD A m h F.1.1 pre → (∀ d ∈ pre, d < 4) → pre.length ≤ c → ∃ s g, f_M_shared_37 N (q + (fuel + 1)) h m (iI set) (iI x) (iI c) = some (lI (s * x + gSum F.1.1 (pre ++ shL set q c) s), g) ∧ zShS F.1.1 (pre ++ shL set q c) x s ∧ frM A m h g ∧ h_i g m 1 = h_i h m 1 := by
  have m4 : (4, 50, 10003) ∈ mrows := by decide
  intro q
  induction q with
  | zero =>
    intro c fuel h pre hc X S p4 pl
    have M := X.1.1
    obtain ⟨s, g, g1, g2, g3, g4⟩ := together_is N hN M S (fun d hd => X.inv (p4 d hd)) (by omega) hx
    rw [shL, List.append_nil]
    refine ⟨s, g, ?_, g2, g4.1, g4.2.1⟩
    rw [Nat.zero_add]
    unfold f_M_shared_37
    rw [if_pos (show (4 : Int32) ≤ iI c from (iI_le (a := 4) (by omega) (by omega)).mpr (by omega)), cv_at M, g1, cl_s]
  | succ q ih =>
    intro c fuel h pre hc X S p4 pl
    have M := X.1.1
    have e1 : iI (c : Int) + (1 : Int32) = iI ((c + 1 : Nat) : Int) := by rw [show (1 : Int32) = iI 1 from rfl, iI_add]; rfl
    rw [shL, show q + 1 + (fuel + 1) = (q + (fuel + 1)) + 1 by omega]
    rcases bit_01 set c with b | b
    · rw [if_neg (show ¬ set / 2 ^ c % 2 = 1 by omega)]
      obtain ⟨s, g, g1, g2⟩ := ih (c + 1) fuel h pre (by omega) X S p4 (by omega)
      refine ⟨s, g, ?_, g2⟩
      conv => lhs; unfold f_M_shared_37
      unfold f_M_shared_66
      rw [if_neg (show ¬ (4 : Int32) ≤ iI c from fun q => absurd ((iI_le (a := 4) (by omega) (by omega)).mp q) (by omega)), bit_is hset (by omega), b, if_pos (show iI 0 = (0 : Int32) from rfl), bn_i, e1]
      exact g1
    · rw [if_pos b]
      obtain ⟨G', t1, f1, k1, tq, iv, _⟩ := tell_S N (by omega) M (h_i h) X.rs.2 (c := c) (by omega)
      rw [w_i_self] at t1
      have X2 := (X.fr f1.m).1
      have M2 := X2.1.1
      have S2 : SHD A m (w_i h G') F.1.1 pre := S.cg (f1.2 32 (by decide)) (f1.2 33 (by decide)) rfl
      obtain ⟨h3, b1, s3, S3⟩ := S2.add N hN M2 (fun d hd => X.inv (p4 d hd)) (M2.ro m4) (M2.ne m4 (by decide)) (c := c) tq iv
      have X3 := (X2.fr s3.1).1
      obtain ⟨s, g, g1, g2, g3, g4⟩ := ih (c + 1) fuel h3 (pre ++ [c]) (by omega) X3 S3 (fun d hd => by
        rcases List.mem_append.mp hd with z | z
        · exact p4 d z
        · rw [List.mem_singleton.mp z]; omega) (by rw [List.length_append]; simp; omega)
      rw [List.append_assoc] at g1 g2
      refine ⟨s, g, ?_, g2, (f1.m.trans s3.1).trans g3, g4.trans (s3.2.1.trans k1)⟩
      conv => lhs; unfold f_M_shared_37
      unfold f_M_shared_66
      rw [if_neg (show ¬ (4 : Int32) ≤ iI c from fun q => absurd ((iI_le (a := 4) (by omega) (by omega)).mp q) (by omega)), bit_is hset (by omega), b, if_neg (show ¬ iI 1 = (0 : Int32) by decide), cv_at M, t1, cl_s, gR_at M2 m4, nn_s, cv_at M2, b1, cl_s, bn_i, e1]
      exact g1
theorem shared_M (N : Nat) (hN : 30000 ≤ N) (X : RM ρ A m h F) {set x : Int} (hc : i32 set) (hx : i32 x) : ∃ s, ((1 ≤ set ∧ set ≤ 15) ∧ (-100000 ≤ x ∧ x ≤ 100000) → zShS F.1.1 (shL set 4 0) x s) ∧ RX ρ A m h (if (1 ≤ set ∧ set ≤ 15) ∧ (-100000 ≤ x ∧ x ≤ 100000) then lI (s * x + gSum F.1.1 (shL set 4 0) s) else 0) F (if (1 ≤ set ∧ set ≤ 15) ∧ (-100000 ≤ x ∧ x ≤ 100000) then 0 else 1) (f_M_shared N h m (iI set) (iI x)) := by
  obtain ⟨X1, c1⟩ := X.code 0
  have M1 := X1.1.1
  have hin := inI N (s_i h m 1 0) hc (lo := 1) (hi := 15) (by omega) (by omega)
  have e24 : f_M_shared_24 N (s_i h m 1 0) m = some (0, s_i (s_i h m 1 0) m 1 1) := by unfold f_M_shared_24; rw [cv_at M1, failM N X1, cl_s]; rfl
  by_cases h1 : 1 ≤ set ∧ set ≤ 15
  · rw [if_pos h1] at hin
    by_cases x1 : -100000 ≤ x ∧ x ≤ 100000
    · have y : (1 ≤ set ∧ set ≤ 15) ∧ (-100000 ≤ x ∧ x ≤ 100000) := ⟨h1, x1⟩
      obtain ⟨h2, a1, s2, S2⟩ := clear_sh N hN M1 F.1.1
      have X2 := (X1.fr s2.1).1
      obtain ⟨s, g, g1, g2, g3, g4⟩ := sh37 N hN h1 x1 4 0 (N - 5) h2 [] (by omega) X2 S2 (fun d hd => by simp at hd) (by simp)
      rw [show 4 + (N - 5 + 1) = N by omega] at g1
      refine ⟨s, fun _ => g2, ?_⟩
      rw [if_pos y, if_pos y]
      refine X.x (c1.trans (s2.1.trans g3).c) (X2.fr g3).1 ?_ (g4.trans (s2.2.1.trans (code_a h m 0)))
      unfold f_M_shared
      rw [pI_at X.1.1, show (1 : Int64) = lI 1 from rfl, show (15 : Int64) = lI 15 from rfl, hin, cl_s, if_neg (by decide), isX_y N _ x1, cl_s, if_neg (by decide), cv_at M1, a1, cl_s]
      exact g1
    · have y : ¬ ((1 ≤ set ∧ set ≤ 15) ∧ (-100000 ≤ x ∧ x ≤ 100000)) := fun z => x1 z.2
      refine ⟨0, fun z => absurd z y, ?_⟩
      rw [if_neg y, if_neg y]
      refine X.failX ?_
      unfold f_M_shared
      rw [pI_at X.1.1, show (1 : Int64) = lI 1 from rfl, show (15 : Int64) = lI 15 from rfl, hin, cl_s, if_neg (by decide), isX_n N _ hx x1, cl_s, if_pos rfl, e24]
  · have y : ¬ ((1 ≤ set ∧ set ≤ 15) ∧ (-100000 ≤ x ∧ x ≤ 100000)) := fun z => h1 z.1
    rw [if_neg h1] at hin
    refine ⟨0, fun z => absurd z y, ?_⟩
    rw [if_neg y, if_neg y]
    refine X.failX ?_
    unfold f_M_shared
    rw [pI_at X.1.1, show (1 : Int64) = lI 1 from rfl, show (15 : Int64) = lI 15 from rfl, hin, cl_s, if_pos rfl, e24]
end
