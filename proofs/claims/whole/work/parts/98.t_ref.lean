/-! THE REFERENCE: years -/
theorem dlist_len (Z : Nat → Int) (d : Int) : ∀ (q s : Nat), (dlist Z d q s).length = q := by
  intro q
  induction q with
  | zero => intro s; rfl
  | succ q ih => intro s; rw [dlist, List.length_cons, ih]
section
variable {ρ : Nat → Nat} {A : Nat → Nat} {m : Nat} {h0 h g u : hS} {F F' : FT} {a b : Nat} {Z : Nat → Int} {v : Int32}
/-- a year of the reference begins: the draw, the table -/
def YR (A : Nat → Nat) (m : Nat) (h0 h : hS) (v : Int32) (Z : Nat → Int) : Prop := MO A m h ∧ frM A m h0 h ∧ h_i h m 1 = h_i h0 m 1 ∧ h_i h m 48 = v ∧ tEq (zi (h_i h (A 4))) Z ∧ zInv Z
theorem YR.draw (Y : YR A m h0 h v Z) (w : Int32) : YR A m h0 (s_i h m 48 w) w Z := by
  obtain ⟨M, f, c, d, t, i⟩ := Y
  refine ⟨M, f.trans (frM.field (by decide) w), by rw [h_i_si, if_pos rfl, upd_o (by decide)]; exact c, by rw [h_i_si, if_pos rfl, upd_a], ?_, i⟩
  rw [h_i_si, if_neg (M.ne (i := 4) (k := 50) (n := 10003) (by decide) (by decide))]
  exact t
theorem drawM (N : Nat) (Y : YR A m h0 h v Z) {n : Int} (hn : 1 ≤ n ∧ n ≤ 1000) {β : Type} (f : Int32 → hS → Option β) : cv h (some m) 0 (fun a => f_M_draw N h a (iI n)) f = f (iI (drw (nxt v) % n)) (s_i h m 48 (nxt v)) := by
  have M := Y.1
  have d := drw_rng (nxt v)
  rw [cv_at M]
  unfold f_M_draw
  rw [gI_at M, pI_at M, gI_at (h := s_i h m 48 (h_i h m 48 * 1103515245 + 12345)) M, dv_ok (show iI n ≠ 0 from fun q => absurd ((iI_eq (b := 0) (by omega) (by omega)).mp q) (by omega)), h_i_si, if_pos rfl, upd_a, Y.2.2.2.1]
  have e1 : ((v * 1103515245 + 12345) >>> ((16 : Int32) &&& 31)) &&& (32767 : Int32) = iI (drw (nxt v)) := (toInt_iI _).symm
  rw [e1, iI_divn (by omega) (by omega), iI_mul, iI_sub, cl_s]
  have e2 : drw (nxt v) - drw (nxt v) / n * n = drw (nxt v) % n := by
    rw [Int.emod_def, Int.mul_comm]
  rw [e2]
  rfl
theorem happ134 (N : Nat) (hN : 30000 ≤ N) (Y : YR A m h0 h v Z) {kd a b : Int} (ok : okArg kd a b) (h8 : kd ≠ 8) : ∃ g Z', f_M_happens_134 N h m (iI kd) (iI a) (iI b) = some ((), g) ∧ YR A m h0 g v Z' ∧ zYear Z Z' kd a b := by
  have m4 : (4, 50, 10003) ∈ mrows := by decide
  have m5 : (5, 50, 10003) ∈ mrows := by decide
  have m6 : (6, 50, 10003) ∈ mrows := by decide
  obtain ⟨M, f, c, d, t, i⟩ := Y
  have n4m : A 4 ≠ m := M.ne m4 (by decide)
  have n5m : A 5 ≠ m := M.ne m5 (by decide)
  have n54 : A 5 ≠ A 4 := M.nn m5 m4 (by decide)
  have n56 : A 5 ≠ A 6 := M.nn m5 m6 (by decide)
  obtain ⟨h6, hh6⟩ : ∃ h6, h6 = s_w h (A 5) (upto (h_i h (A 5)) (h_i h (A 4)) 10003) := ⟨_, rfl⟩
  have f6 : frM A m h h6 := by rw [hh6]; exact (fr.row (G := h_i h) (by decide) n5m _).m
  have M6 : MO A m h6 := by rw [hh6]; exact M
  have i6 : ∀ q, q ≠ A 5 → h_i h6 q = h_i h q := fun q hq => by rw [hh6, h_i_sw, if_neg hq]
  have i65 : ∀ k, k < 10003 → h_i h6 (A 5) k = h_i h (A 4) k := fun k hk => by rw [hh6, h_i_sw, if_pos rfl]; simp [upto, hk]
  have t6 : tEq (zi (h_i h6 (A 4))) Z := by rw [i6 _ (Ne.symm n54)]; exact t
  obtain ⟨G', e, o, fm, tq⟩ := goes_is N (by omega) M6 (h_i h6) t6 i ok (t := -1) (Y := fun _ => 0) (fun z => absurd z h8)
  rw [w_i_self] at e
  have f7 : frM A m h6 (w_i h6 G') := by
    have : fr A m (h_i h6) G' := ⟨fun q h1 h2 => o q (h1 4 (by decide)) (h1 6 (by decide)) h2, fun k hk => fm k (fun z => hk (by rw [z]; decide))⟩
    exact this.m
  have M7 : MO A m (w_i h6 G') := M6
  have c7 : h_i (w_i h6 G') m 1 = h_i h0 m 1 := by
    show G' m 1 = _
    rw [fm 1 (by decide), i6 m (Ne.symm n5m)]; exact c
  have d7 : h_i (w_i h6 G') m 48 = v := by
    show G' m 48 = _
    rw [fm 48 (by decide), i6 m (Ne.symm n5m)]; exact d
  by_cases q : stOk Z (fun _ => 0) kd a b
  · rw [if_pos q] at e
    refine ⟨w_i h6 G', zStep Z (fun _ => 0) kd a b, ?_, ⟨M7, (f.trans f6).trans f7, c7, d7, tq, (zStep_sm i ok (fun z => absurd z h8) q.1).inv q.2⟩, fun _ => rfl, fun z => absurd q z⟩
    unfold f_M_happens_134 f_M_happens_170
    rw [gR_at M m5, gR_at M m4, nn_s, nn_s, copyTo_is N (by omega) (M.ro m5) (M.ro m4) n54 (by omega), cl_s, ← hh6, cv_at M6, show (-1 : Int32) = iI (-1) by decide, e, cl_s, if_neg (by decide)]
  · rw [if_neg q] at e
    obtain ⟨h8', hh8⟩ : ∃ h8', h8' = s_w (w_i h6 G') (A 4) (upto (G' (A 4)) (G' (A 5)) 10003) := ⟨_, rfl⟩
    have f8 : frM A m (w_i h6 G') h8' := by rw [hh8]; exact (fr.row (G := G') (by decide) n4m _).m (h := w_i h6 G')
    refine ⟨h8', Z, ?_, ⟨by rw [hh8]; exact M7, ((f.trans f6).trans f7).trans f8, ?_, ?_, fun k hk => ?_, i⟩, fun z => absurd z q, fun _ => rfl⟩
    · unfold f_M_happens_134 f_M_happens_170
      rw [gR_at M m5, gR_at M m4, nn_s, nn_s, copyTo_is N (by omega) (M.ro m5) (M.ro m4) n54 (by omega), cl_s, ← hh6, cv_at M6, show (-1 : Int32) = iI (-1) by decide, e, cl_s, if_pos rfl, gR_at M7 m4, gR_at M7 m5, nn_s, nn_s, copyTo_is N (by omega) (M7.ro m4) (M7.ro m5) (Ne.symm n54) (by omega), cl_s, h_i_wi, ← hh8]
    · rw [hh8, h_i_sw, if_neg (Ne.symm n4m)]; exact c7
    · rw [hh8, h_i_sw, if_neg (Ne.symm n4m)]; exact d7
    · have e5 : h_i h8' (A 4) k = h_i h (A 4) k := by
        rw [hh8, h_i_sw, if_pos rfl, ← i65 k hk, ← o (A 5) n54 n56 n5m]
        simp [upto, hk]
      show (h_i h8' (A 4) k).toInt = _
      rw [e5]
      exact t k hk
theorem happ_is (N : Nat) (hN : 30000 ≤ N) (Y : YR A m h0 h v Z) : ∃ g Z', f_M_happens N h m = some ((), g) ∧ YR A m h0 g (yV v) Z' ∧ zYear Z Z' (yA v).1 (yA v).2.1 (yA v).2.2 := by
  have ok := yA_ok v
  unfold f_M_happens
  rw [show (8 : Int32) = iI 8 from rfl, drawM N Y (by omega)]
  have Y1 := Y.draw (nxt v)
  have d := drw_rng (nxt v)
  unfold yV yA at *
  generalize hd1 : drw (nxt v) = d1 at *
  generalize hv1 : nxt v = v1 at *
  generalize s_i h m 48 v1 = h1 at *
  have hdr1 : ∀ n : Int, 1 ≤ n ∧ n ≤ 1000 → ∀ (f : Int32 → hS → Option (Unit × hS)), cv h1 (some m) 0 (fun a => f_M_draw N h1 a (iI n)) f = f (iI (drw (nxt v1) % n)) (s_i h1 m 48 (nxt v1)) := fun n hn f => drawM N Y1 hn f
  have Y2 := Y1.draw (nxt v1)
  have d2r := drw_rng (nxt v1)
  generalize hd2 : drw (nxt v1) = d2 at *
  generalize hv2 : nxt v1 = v2 at *
  generalize s_i h1 m 48 v2 = h2 at *
  have hdr2 : ∀ n : Int, 1 ≤ n ∧ n ≤ 1000 → ∀ (f : Int32 → hS → Option (Unit × hS)), cv h2 (some m) 0 (fun a => f_M_draw N h2 a (iI n)) f = f (iI (drw (nxt v2) % n)) (s_i h2 m 48 (nxt v2)) := fun n hn f => drawM N Y2 hn f
  have Y3 := Y2.draw (nxt v2)
  have d3r := drw_rng (nxt v2)
  generalize hd3 : drw (nxt v2) = d3 at *
  generalize hv3 : nxt v2 = v3 at *
  generalize s_i h2 m 48 v3 = h3 at *
  unfold ykS
  unfold ykG at *
  have lt : ∀ k : Int, 0 ≤ k → k ≤ 20 → (iI k ≤ iI (d1 % 8) ↔ k ≤ d1 % 8) := fun k h1 h2 => iI_le (by omega) (by omega)
  have eq : ∀ k : Int, 0 ≤ k → k ≤ 20 → (iI (d1 % 8) = iI k ↔ d1 % 8 = k) := fun k h1 h2 => iI_eq (by omega) (by omega)
  unfold f_M_happens_39 f_M_happens_104
  by_cases c3 : d1 % 8 ≤ 3
  · rw [if_pos c3] at ok ⊢
    rw [if_pos c3]
    have tail : ∀ kd : Int, kd = min (d1 % 8) 2 → ∃ g Z', (cv h1 (some m) 0 (fun a => f_M_draw N h1 a (101 : Int32)) fun v7 h8 => cv h8 (some m) 0 (fun a => f_M_draw N h8 a (10 : Int32)) fun v3 h4 => f_M_happens_134 N h4 m (iI kd) (v7 - (50 : Int32)) v3) = some ((), g) ∧ YR A m h0 g v3 Z' ∧ zYear Z Z' (min (d1 % 8) 2) (d2 % 101 - 50) (d3 % 10) := fun kd hk => by
      rw [show (101 : Int32) = iI 101 from rfl, hdr1 101 (by omega), show (10 : Int32) = iI 10 from rfl, hdr2 10 (by omega), show (50 : Int32) = iI 50 from rfl, iI_sub, hk]
      exact happ134 N hN Y3 ok.1 ok.2
    have n4 : ¬ (4 : Int32) ≤ iI (d1 % 8) := fun z => by have := (lt 4 (by omega) (by omega)).mp z; omega
    by_cases e3 : d1 % 8 = 3
    · rw [if_pos (show (3 : Int32) ≤ iI (d1 % 8) from (lt 3 (by omega) (by omega)).mpr (by omega)), if_pos (show iI (d1 % 8) = (3 : Int32) from (eq 3 (by omega) (by omega)).mpr e3), if_neg n4]
      simp only [if_neg n4]
      exact tail 2 (by omega)
    · rw [if_neg (show ¬ (3 : Int32) ≤ iI (d1 % 8) from fun z => by have := (lt 3 (by omega) (by omega)).mp z; omega), if_neg n4]
      simp only [if_neg n4]
      exact tail (d1 % 8) (by omega)
  · rw [if_neg c3] at ok ⊢
    rw [if_neg c3]
    have p4 : (4 : Int32) ≤ iI (d1 % 8) := (lt 4 (by omega) (by omega)).mpr (by omega)
    have p3 : (3 : Int32) ≤ iI (d1 % 8) := (lt 3 (by omega) (by omega)).mpr (by omega)
    have n3 : ¬ iI (d1 % 8) = (3 : Int32) := fun z => by have := (eq 3 (by omega) (by omega)).mp z; omega
    rw [if_pos p3, if_neg n3]
    simp only [if_pos p4]
    by_cases c4 : d1 % 8 = 4
    · rw [if_pos c4] at ok ⊢
      rw [if_pos c4, c4, if_neg (show ¬ iI 4 = (7 : Int32) by decide), if_pos (show iI 4 = (4 : Int32) from rfl)]
      simp only [if_neg (show ¬ iI 4 = (5 : Int32) by decide)]
      rw [show (21 : Int32) = iI 21 from rfl, hdr1 21 (by omega), show iI 4 - (1 : Int32) = iI 3 by decide, show (10 : Int32) = iI 10 from rfl, iI_sub, show (0 : Int32) = iI 0 from rfl]
      exact happ134 N hN Y2 ok.1 ok.2
    · rw [if_neg c4] at ok ⊢
      rw [if_neg c4]
      by_cases c5 : d1 % 8 = 5
      · rw [if_pos c5] at ok ⊢
        rw [if_pos c5, c5, if_neg (show ¬ iI 5 = (7 : Int32) by decide), if_neg (show ¬ iI 5 = (4 : Int32) by decide), if_pos (show iI 5 = (5 : Int32) from rfl)]
        simp only [if_pos (show iI 5 = (5 : Int32) from rfl)]
        rw [show (6 : Int32) = iI 6 from rfl, hdr1 6 (by omega), hdr2 6 (by omega), show iI 5 - (1 : Int32) = iI 4 by decide]
        exact happ134 N hN Y3 ok.1 ok.2
      · rw [if_neg c5] at ok ⊢
        rw [if_neg c5]
        by_cases c6 : d1 % 8 = 6
        · rw [if_pos c6] at ok ⊢
          rw [if_pos c6, c6, if_neg (show ¬ iI 6 = (7 : Int32) by decide), if_neg (show ¬ iI 6 = (4 : Int32) by decide), if_neg (show ¬ iI 6 = (5 : Int32) by decide), if_neg (show ¬ iI 6 = (7 : Int32) by decide), if_neg (show ¬ iI 6 = (5 : Int32) by decide), show iI 6 - (1 : Int32) = iI 5 by decide, show (0 : Int32) = iI 0 from rfl]
          exact happ134 N hN Y1 ok.1 ok.2
        · rw [if_neg c6] at ok ⊢
          have c7 : d1 % 8 = 7 := by omega
          rw [if_neg c6, c7, if_pos (show iI 7 = (7 : Int32) from rfl), if_neg (show ¬ iI 7 = (4 : Int32) by decide), if_neg (show ¬ iI 7 = (5 : Int32) by decide), if_pos (show iI 7 = (7 : Int32) from rfl)]
          simp only [if_neg (show ¬ iI 7 = (5 : Int32) by decide)]
          rw [show (10 : Int32) = iI 10 from rfl, hdr1 10 (by omega), show (7 : Int32) = iI 7 from rfl, show (0 : Int32) = iI 0 from rfl]
          exact happ134 N hN Y2 ok.1 ok.2
theorem years56 (N : Nat) (hN : 30000 ≤ N) {n : Nat} (hn : n ≤ 20) {w : Int} (hw : 0 ≤ w ∧ w ≤ 2) : ∀ (q i : Nat) (h : hS) (v : Int32) (Z : Nat → Int) (fuel : Nat), i + q = n → YR A m h0 h v Z → ∃ Z', zYs q v Z Z' ∧ ∃ g, f_M_years_56 N (q + (fuel + 1)) h m (iI n) (iI w) (iI i) = some (lI (zYa Z' w), g) ∧ frM A m h0 g ∧ h_i g m 1 = h_i h0 m 1 := by
  have m4 : (4, 50, 10003) ∈ mrows := by decide
  intro q
  induction q with
  | zero =>
    intro i h v Z fuel hi Y
    obtain ⟨M, f, c, d, t, iv⟩ := Y
    have iv' := t.symm.inv iv
    refine ⟨Z, rfl, h, ?_, f, c⟩
    have kl : (zK Z).length ≤ 10001 := by
      have h1 : (zK Z).length ≤ (zL Z).length := List.length_filter_le _ _
      have h2 : (zL Z).length = 10001 := dlist_len Z 0 10001 0
      omega
    rw [Nat.zero_add]
    unfold f_M_years_56 f_M_years_110
    rw [if_pos ((iI_le (by omega) (by omega)).mpr (by omega))]
    unfold zYa
    by_cases w0 : w = 0
    · rw [if_pos (show iI w = (0 : Int32) by rw [w0]; rfl), if_pos w0, gR_at M m4, nn_s, leastOf_is N (by omega) (M.ro m4) iv'.sb, cl_s, zLeast_congr t]
    · rw [if_neg (show ¬ iI w = (0 : Int32) from fun z => w0 ((iI_eq (b := 0) (by omega) (by omega)).mp z)), if_neg w0]
      by_cases w1 : w = 1
      · rw [if_pos (show iI w = (1 : Int32) by rw [w1]; rfl), if_pos w1, gR_at M m4, nn_s, kinks_is N (by omega) (M.ro m4) iv'.1.1, cl_s, zK_congr t, iI_l (by omega) (by omega)]
      · rw [if_neg (show ¬ iI w = (1 : Int32) from fun z => w1 ((iI_eq (b := 1) (by omega) (by omega)).mp z)), if_neg w1, gR_at M m4, nn_s, show (0 : Int32) = iI 0 from rfl, valueAt_is N (by omega) (M.ro m4) (by omega) (by omega), cl_s, zVal_congr t]
  | succ q ih =>
    intro i h v Z fuel hi Y
    obtain ⟨g1, Z1, a1, a2, a3⟩ := happ_is N hN Y
    obtain ⟨Z', z1, g, z2, z3⟩ := ih (i + 1) g1 _ Z1 fuel (by omega) a2
    have e1 : iI (i : Int) + (1 : Int32) = iI ((i + 1 : Nat) : Int) := by rw [show (1 : Int32) = iI 1 from rfl, iI_add]; rfl
    refine ⟨Z', ⟨Z1, a3, z1⟩, g, ?_, z3⟩
    rw [show q + 1 + (fuel + 1) = (q + (fuel + 1)) + 1 by omega]
    conv => lhs; unfold f_M_years_56
    rw [if_neg (fun z => absurd ((iI_le (by omega) (by omega)).mp z) (by omega)), cv_at Y.1, a1, cl_s, bn_i, e1]
    exact z2
theorem years_M (N : Nat) (hN : 30000 ≤ N) (X : RM ρ A m h F) (sd : Int32) {n w : Int} (hn : i32 n) (hw : i32 w) : ∃ Z', ((0 ≤ w ∧ w ≤ 2) ∧ (0 ≤ n ∧ n ≤ 20) → zYs n.toNat sd (zC F.1.1 0) Z') ∧ RX ρ A m h (if (0 ≤ w ∧ w ≤ 2) ∧ (0 ≤ n ∧ n ≤ 20) then lI (zYa Z' w) else 0) F (if 0 ≤ w ∧ w ≤ 2 then (if 0 ≤ n ∧ n ≤ 20 then 0 else 2) else 1) (f_M_years N h m sd (iI n) (iI w)) := by
  obtain ⟨X1, c1⟩ := X.code 0
  have M1 := X1.1.1
  have hin := inI N (s_i h m 1 0) hw (lo := 0) (hi := 2) (by omega) (by omega)
  have hin2 := inI N (s_i h m 1 0) hn (lo := 0) (hi := 20) (by omega) (by omega)
  by_cases w1 : 0 ≤ w ∧ w ≤ 2
  · rw [if_pos w1] at hin
    by_cases n1 : 0 ≤ n ∧ n ≤ 20
    · rw [if_pos n1] at hin2
      obtain ⟨G', t1, f1, k1, tq, iv, _⟩ := tell_S N (by omega) M1 (h_i (s_i h m 1 0)) X1.rs.2 (c := 0) (by omega)
      rw [w_i_self] at t1
      obtain ⟨h2, hh2⟩ : ∃ h2, h2 = w_i (s_i h m 1 0) G' := ⟨_, rfl⟩
      have f2 := f1.m
      rw [← hh2] at t1 f2
      have M2 : MO A m h2 := by rw [hh2]; exact M1
      have Y0 : YR A m (s_i h m 1 0) h2 (h_i h2 m 48) (zC F.1.1 0) := ⟨M2, f2, by rw [hh2]; exact k1, rfl, by rw [hh2]; exact tq, iv⟩
      have Y1 := Y0.draw sd
      obtain ⟨Z', z1, g, g1, g2, g3⟩ := years56 N hN (n := n.toNat) (by omega) w1 n.toNat 0 _ _ _ (N - n.toNat - 1) (by omega) Y1
      rw [show n.toNat + (N - n.toNat - 1 + 1) = N by omega, show ((n.toNat : Nat) : Int) = n by omega] at g1
      refine ⟨Z', fun _ => z1, ?_⟩
      rw [if_pos (show (0 ≤ w ∧ w ≤ 2) ∧ (0 ≤ n ∧ n ≤ 20) from ⟨w1, n1⟩), if_pos w1, if_pos n1]
      refine X.x (c1.trans g2.c) (X1.fr g2).1 ?_ (g3.trans (code_a h m 0))
      unfold f_M_years
      rw [pI_at X.1.1, show (0 : Int64) = lI 0 from rfl, show (2 : Int64) = lI 2 from rfl, hin, cl_s, if_neg (by decide), show (20 : Int64) = lI 20 from rfl, hin2, cl_s, if_neg (by decide), cv_at M1, show f_M_tell N (s_i h m 1 0) m (0 : Int32) = some ((), h2) from t1, cl_s, pI_at M2]
      exact g1
    · rw [if_neg n1] at hin2
      have y : ¬ ((0 ≤ w ∧ w ≤ 2) ∧ (0 ≤ n ∧ n ≤ 20)) := fun z => n1 z.2
      refine ⟨zC F.1.1 0, fun z => absurd z y, ?_⟩
      rw [if_neg y, if_pos w1, if_neg n1]
      refine X.failX ?_
      unfold f_M_years
      rw [pI_at X.1.1, show (0 : Int64) = lI 0 from rfl, show (2 : Int64) = lI 2 from rfl, hin, cl_s, if_neg (by decide), show (20 : Int64) = lI 20 from rfl, hin2, cl_s, if_pos rfl, cv_at M1, failM N X1, cl_s]
      rfl
  · rw [if_neg w1] at hin
    have y : ¬ ((0 ≤ w ∧ w ≤ 2) ∧ (0 ≤ n ∧ n ≤ 20)) := fun z => w1 z.1
    refine ⟨zC F.1.1 0, fun z => absurd z y, ?_⟩
    rw [if_neg y, if_neg w1]
    refine X.failX ?_
    unfold f_M_years
    rw [pI_at X.1.1, show (0 : Int64) = lI 0 from rfl, show (2 : Int64) = lI 2 from rfl, hin, cl_s, if_pos rfl, cv_at M1, failM N X1, cl_s]
    rfl
end
