/-! YEARS: what happens is drawn -/
def nxt (v : Int32) : Int32 := v * 1103515245 + 12345
def drw (v : Int32) : Int := ((v >>> ((16 : Int32) &&& 31)) &&& (32767 : Int32)).toInt
theorem and15 (x : Int32) : 0 ≤ (x &&& (32767 : Int32)).toInt ∧ (x &&& (32767 : Int32)).toInt ≤ 32767 := by
  have e : (x &&& (32767 : Int32)).toBitVec = x.toBitVec &&& 32767#32 := rfl
  have h1 : (x.toBitVec &&& 32767#32).toNat ≤ 32767 := by
    rw [BitVec.toNat_and]; exact Nat.and_le_right
  have h2 : (x &&& (32767 : Int32)).toInt = (x.toBitVec &&& 32767#32).toInt := rfl
  rw [h2, BitVec.toInt_eq_toNat_of_lt (by omega)]
  omega
theorem drw_rng (v : Int32) : 0 ≤ drw v ∧ drw v ≤ 32767 := and15 _
theorem shr_same (v : Int32) : ((v.toUInt32 >>> ((16 : Int32).toUInt32 &&& Int32.toUInt32 31)).toInt32) &&& (32767 : Int32) = (v >>> ((16 : Int32) &&& 31)) &&& (32767 : Int32) := by
  apply Int32.toBitVec_inj.mp
  show (v.toBitVec >>> (16 : Nat)) &&& 32767#32 = (v.toBitVec.sshiftRight 16) &&& 32767#32
  apply BitVec.eq_of_getLsbD_eq
  intro i hi
  rw [BitVec.getLsbD_and, BitVec.getLsbD_and, BitVec.getLsbD_ushiftRight, BitVec.getLsbD_sshiftRight]
  by_cases h : i < 15
  · rw [if_pos (by omega), show decide (32 ≤ i) = false from by simp; omega]
    simp
  · have : (32767#32).getLsbD i = false := by
      rcases (show i = 15 ∨ i = 16 ∨ i = 17 ∨ i = 18 ∨ i = 19 ∨ i = 20 ∨ i = 21 ∨ i = 22 ∨ i = 23 ∨ i = 24 ∨ i = 25 ∨ i = 26 ∨ i = 27 ∨ i = 28 ∨ i = 29 ∨ i = 30 ∨ i = 31 by omega) with e | e | e | e | e | e | e | e | e | e | e | e | e | e | e | e | e <;> subst e <;> rfl
    rw [this, Bool.and_false, Bool.and_false]
/-- a year: kind, numbers, the seed behind it -/
def ykG (d1 d2 d3 : Int) : Int × Int × Int := if d1 % 8 ≤ 3 then (min (d1 % 8) 2, d2 % 101 - 50, d3 % 10) else if d1 % 8 = 4 then (3, d2 % 21 - 10, 0) else if d1 % 8 = 5 then (4, d2 % 6, d3 % 6) else if d1 % 8 = 6 then (5, 0, 0) else (7, d2 % 10, 0)
def ykS (d1 : Int) (v1 v2 v3 : Int32) : Int32 := if d1 % 8 ≤ 3 then v3 else if d1 % 8 = 4 then v2 else if d1 % 8 = 5 then v3 else if d1 % 8 = 6 then v1 else v2
def yA (v : Int32) : Int × Int × Int := ykG (drw (nxt v)) (drw (nxt (nxt v))) (drw (nxt (nxt (nxt v))))
def yV (v : Int32) : Int32 := ykS (drw (nxt v)) (nxt v) (nxt (nxt v)) (nxt (nxt (nxt v)))
def zYear (Z Z' : Nat → Int) (kd a b : Int) : Prop := (stOk Z (fun _ => 0) kd a b → Z' = zStep Z (fun _ => 0) kd a b) ∧ (¬ stOk Z (fun _ => 0) kd a b → Z' = Z)
def zYs : Nat → Int32 → (Nat → Int) → (Nat → Int) → Prop
  | 0, _, Z, Z' => Z' = Z
  | n + 1, v, Z, Z' => ∃ Z1, zYear Z Z1 (yA v).1 (yA v).2.1 (yA v).2.2 ∧ zYs n (yV v) Z1 Z'
theorem zYear_un {Z Z1 Z2 : Nat → Int} {kd a b : Int} (h1 : zYear Z Z1 kd a b) (h2 : zYear Z Z2 kd a b) : Z1 = Z2 := by
  by_cases q : stOk Z (fun _ => 0) kd a b
  · rw [h1.1 q, h2.1 q]
  · rw [h1.2 q, h2.2 q]
theorem zYs_un : ∀ {n : Nat} {v : Int32} {Z Z1 Z2 : Nat → Int}, zYs n v Z Z1 → zYs n v Z Z2 → Z1 = Z2 := by
  intro n
  induction n with
  | zero => intro v Z Z1 Z2 h1 h2; exact h1.trans h2.symm
  | succ n ih =>
    intro v Z Z1 Z2 ⟨A, a1, a2⟩ ⟨B, b1, b2⟩
    have := zYear_un a1 b1
    subst this
    exact ih a2 b2
theorem ykG_ok {d1 d2 d3 : Int} (h1 : 0 ≤ d1) (h2 : 0 ≤ d2) (h3 : 0 ≤ d3) : okArg (ykG d1 d2 d3).1 (ykG d1 d2 d3).2.1 (ykG d1 d2 d3).2.2 ∧ (ykG d1 d2 d3).1 ≠ 8 := by
  unfold ykG okArg
  split
  · simp only []; omega
  · split
    · simp only []; omega
    · split
      · simp only []; omega
      · split
        · simp only []; omega
        · simp only []; omega
theorem yA_ok (v : Int32) : okArg (yA v).1 (yA v).2.1 (yA v).2.2 ∧ (yA v).1 ≠ 8 := ykG_ok (drw_rng _).1 (drw_rng _).1 (drw_rng _).1
section
variable {ρ : Nat → Nat} {h : hS} {Q : Nat → Nat} {F : FT} {ks : List Nat} {α : Type}
def RY : Nat → Prop := fun q => RA q ∨ q = 17
theorem KS.drawn (K : KS ρ h Q F ks) (v : Int32) : KS ρ (s_i h (Q 0) 8 v) Q F ks ∧ brs (s_i h (Q 0) 8 v) (Q 4) = brs h (Q 4) := by
  have hx := K.x
  have t : tr ρ h (rg 17) ρ (s_i h (Q 0) 8 v) := tr_si hx.2.1
  have n : ∀ q, q ≠ 17 → ¬ rg 17 q := fun q hq z => hq z
  obtain ⟨⟨f1, f2, f3⟩, ⟨b1, b2, b3, m, p, Y, b4⟩, c1, ⟨d1, d2⟩, e1, e2, e3⟩ := K
  obtain ⟨b1', b1b⟩ := b1.keep t (fun q hq => n q (by unfold RB at hq; omega))
  refine ⟨⟨⟨f1.keep t, fun e he => f2 e he, f3⟩, ⟨b1', b2.keep t (n _ (by omega)) (n _ (by omega)), (b3.keep t (n _ (by omega))).1, m, p, Y, b4.keep t (n _ (by omega)) (n _ (by omega))⟩, fun c hc => (c1 c hc).keep t (n _ (by omega)), ⟨d1.keep t (n _ (by omega)) (fun q h1 h2 => n _ (by omega)), d2⟩, ?_, ?_, ?_⟩, b1b⟩
  · revert e1
    cases F.2.1 with
    | none => exact fun e1 => e1
    | some S =>
      intro e1
      obtain ⟨P, p1, p2, p3⟩ := e1
      exact ⟨P, p1, p2.keep t (n _ (by omega)) (fun q h1 h2 => n _ (by omega)), p3⟩
  · obtain ⟨q1, tp, q2, q3, q4, q5, q6, q7, q8⟩ := e2
    refine ⟨?_, tp, q2, q3, q4, q5, q6, q7, fun i hi => ?_⟩
    · rw [h_i_si, if_pos rfl]; exact q1
    · rw [h_i_si, if_neg (fun e => by rw [e] at q3; rw [hx.1] at q3; exact absurd q3 (by decide))]
      exact q8 i hi
  · rw [h_i_si, if_pos rfl]; exact e3
theorem draw_is (N : Nat) (K : KS ρ h Q F ks) {n : Int} (hn : 1 ≤ n ∧ n ≤ 1000) {β : Type} (f : Int32 → hS → Option β) : cv h (some (Q 0)) 12 (fun a => f_K_draw N h a (iI n)) f = f (iI (drw (nxt (h_i h (Q 0) 8)) % n)) (s_i h (Q 0) 8 (nxt (h_i h (Q 0) 8))) := by
  have hx := K.x.1
  have d := drw_rng (nxt (h_i h (Q 0) 8))
  rw [cv_k hx]
  unfold f_K_draw f_K_draw_38
  rw [gI_k hx, pI_k hx, gI_k (show h_k (s_i h (Q 0) 8 (h_i h (Q 0) 8 * 1103515245 + 12345)) (Q 0) = 12 + 1 from hx), if_pos (show (1 : Int32) ≤ iI n from (iI_le (a := 1) (by omega) (by omega)).mpr (by omega)), dv_ok (show iI n ≠ 0 from fun q => absurd ((iI_eq (b := 0) (by omega) (by omega)).mp q) (by omega)), shr_same, h_i_si, if_pos rfl]
  have e0 : upd (h_i h (Q 0)) 8 (h_i h (Q 0) 8 * 1103515245 + 12345) 8 = nxt (h_i h (Q 0) 8) := by unfold upd; rw [if_pos rfl]; rfl
  rw [e0]
  have e1 : (nxt (h_i h (Q 0) 8) >>> ((16 : Int32) &&& 31)) &&& (32767 : Int32) = iI (drw (nxt (h_i h (Q 0) 8))) := (toInt_iI _).symm
  rw [e1, iI_divn (by omega) (by omega), iI_mul, iI_sub, cl_s]
  have e2 : drw (nxt (h_i h (Q 0) 8)) - drw (nxt (h_i h (Q 0) 8)) / n * n = drw (nxt (h_i h (Q 0) 8)) % n := by
    rw [Int.emod_def, Int.mul_comm]
  rw [e2]
  rfl
/-- the object's draw, and the bench's table -/
def YS (ρ : Nat → Nat) (h : hS) (Q : Nat → Nat) (F : FT) (ks : List Nat) (v : Int32) (Z : Nat → Int) : Prop := KS ρ h Q F ks ∧ h_i h (Q 0) 8 = v ∧ BS ρ h (Q 4) (Q 24) (Q 25) Z
theorem YS.draw {v : Int32} {Z : Nat → Int} (Y : YS ρ h Q F ks v Z) (w : Int32) : YS ρ (s_i h (Q 0) 8 w) Q F ks w Z ∧ tr ρ h RY ρ (s_i h (Q 0) 8 w) ∧ hm (s_i h (Q 0) 8 w) + brs (s_i h (Q 0) 8 w) (Q 4) ≤ hm h + brs h (Q 4) := by
  obtain ⟨K, e, B⟩ := Y
  obtain ⟨K1, b1⟩ := K.drawn w
  have t : tr ρ h (rg 17) ρ (s_i h (Q 0) 8 w) := tr_si K.x.2.1
  exact ⟨⟨K1, by rw [h_i_si, if_pos rfl]; rfl, B.keep t (fun q hq z => by have : q = 17 := z; unfold RB at hq; omega)⟩, t.mono (fun q hq => Or.inr hq), by rw [b1]; exact Nat.le_refl _⟩
/-- a year is lived -/
def YG (ρ : Nat → Nat) (h : hS) (Q : Nat → Nat) (F : FT) (ks : List Nat) (v : Int32) (Z : Nat → Int) (kd a b : Int) (r : Option (Unit × hS)) : Prop := ∃ ρ' g Z', r = some ((), g) ∧ YS ρ' g Q F ks v Z' ∧ zYear Z Z' kd a b ∧ tr ρ h RY ρ' g ∧ hm g + brs g (Q 4) ≤ hm h + brs h (Q 4) ∧ h_r g (Q 0) = h_r h (Q 0)
theorem YG.go {v w : Int32} {Z : Nat → Int} {kd a b : Int} {r : Option (Unit × hS)} {ρ1 : Nat → Nat} {g1 : hS} (T : tr ρ h RY ρ1 g1) (m : hm g1 + brs g1 (Q 4) ≤ hm h + brs h (Q 4)) (hr : h_r g1 (Q 0) = h_r h (Q 0)) (E : YG ρ1 g1 Q F ks v Z kd a b r) : YG ρ h Q F ks v Z kd a b r := by
  obtain ⟨ρ2, g2, Z', e1, e2, e3, e4, e5, e6⟩ := E
  exact ⟨ρ2, g2, Z', e1, e2, e3, T.trans e4, by omega, e6.trans hr⟩
theorem live_110 (N : Nat) (hN : 20000 ≤ N) {v : Int32} {Z : Nat → Int} (Y : YS ρ h Q F ks v Z) {kd a b : Int} (ok : okArg kd a b) (h8 : kd ≠ 8) : YG ρ h Q F ks v Z kd a b (f_K_liveYear_110 N h (Q 0) (iI kd) (iI a) (iI b)) := by
  obtain ⟨K, e, B⟩ := Y
  have h4 := K.ko (i := 4) (k := 2) (l := 1) (n := 0) (by decide)
  obtain ⟨ρ', g, Z', a1, a2, a3, a4, a5, a6⟩ := ifNot_is N hN B ok h8 (fun _ => 0)
  obtain ⟨K1, T1⟩ := K.goB a2 a4.x
  refine ⟨ρ', g, Z', ?_, ⟨K1, ?_, a4⟩, ⟨a5, a6⟩, T1.mono (fun q hq => Or.inl hq), a3, ?_⟩
  · unfold f_K_liveYear_110 f_K_liveYear_121
    rw [gR_k K.x.1, K.ref (i := 0) (k := 4) (j := 4) (by decide), cv_k (show h_k h (Q 4) = 1 + 1 from h4.1), a1, cl_s]
  · obtain ⟨b1, b2, b3, b4⟩ := a2.2 (Q 0) K.x.2.2
    rw [(b4 (by rw [K.x.2.1]; unfold RB; omega)).1]
    exact e
  · obtain ⟨b1, b2, b3, b4⟩ := a2.2 (Q 0) K.x.2.2
    exact (b4 (by rw [K.x.2.1]; unfold RB; omega)).2.2
theorem live_is (N : Nat) (hN : 20000 ≤ N) {v : Int32} {Z : Nat → Int} (Y : YS ρ h Q F ks v Z) : YG ρ h Q F ks (yV v) Z (yA v).1 (yA v).2.1 (yA v).2.2 (f_K_liveYear N h (Q 0)) := by
  have ok := yA_ok v
  unfold f_K_liveYear
  rw [show (8 : Int32) = iI 8 from rfl, draw_is N Y.1 (by omega), Y.2.1]
  obtain ⟨Y1, T1, m1⟩ := Y.draw (nxt v)
  refine YG.go (w := 0) T1 m1 (by rw [h_r_si]) ?_
  have d := drw_rng (nxt v)
  unfold yV yA at *
  generalize hd1 : drw (nxt v) = d1 at *
  generalize hv1 : nxt v = v1 at *
  generalize s_i h (Q 0) 8 v1 = h1 at *
  have hdr1 : ∀ n : Int, 1 ≤ n ∧ n ≤ 1000 → ∀ (f : Int32 → hS → Option (Unit × hS)), cv h1 (some (Q 0)) 12 (fun a => f_K_draw N h1 a (iI n)) f = f (iI (drw (nxt v1) % n)) (s_i h1 (Q 0) 8 (nxt v1)) := fun n hn f => by rw [draw_is N Y1.1 hn, Y1.2.1]
  obtain ⟨Y2, T2, m2⟩ := Y1.draw (nxt v1)
  have r2 : h_r (s_i h1 (Q 0) 8 (nxt v1)) (Q 0) = h_r h1 (Q 0) := by rw [h_r_si]
  have d2r := drw_rng (nxt v1)
  generalize hd2 : drw (nxt v1) = d2 at *
  generalize hv2 : nxt v1 = v2 at *
  generalize s_i h1 (Q 0) 8 v2 = h2 at *
  have hdr2 : ∀ n : Int, 1 ≤ n ∧ n ≤ 1000 → ∀ (f : Int32 → hS → Option (Unit × hS)), cv h2 (some (Q 0)) 12 (fun a => f_K_draw N h2 a (iI n)) f = f (iI (drw (nxt v2) % n)) (s_i h2 (Q 0) 8 (nxt v2)) := fun n hn f => by rw [draw_is N Y2.1 hn, Y2.2.1]
  obtain ⟨Y3, T3, m3⟩ := Y2.draw (nxt v2)
  have r3 : h_r (s_i h2 (Q 0) 8 (nxt v2)) (Q 0) = h_r h2 (Q 0) := by rw [h_r_si]
  have d3r := drw_rng (nxt v2)
  generalize hd3 : drw (nxt v2) = d3 at *
  generalize hv3 : nxt v2 = v3 at *
  generalize s_i h2 (Q 0) 8 v3 = h3 at *
  unfold ykS
  unfold ykG at *
  by_cases c3 : d1 % 8 ≤ 3
  · rw [if_pos c3] at ok ⊢
    rw [if_pos c3, if_neg (show ¬ (3 : Int32) < iI (d1 % 8) from fun z => absurd ((iI_lt (a := 3) (by omega) (by omega)).mp z) (by omega)), show (2 : Int32) = iI 2 from rfl, jmn_is (by omega) (by omega), bn_i, show (101 : Int32) = iI 101 from rfl, hdr1 101 (by omega), show (50 : Int32) = iI 50 from rfl, iI_sub, bn_i, show (10 : Int32) = iI 10 from rfl, hdr2 10 (by omega)]
    exact YG.go (w := 0) T2 m2 r2 (YG.go (w := 0) T3 m3 r3 (live_110 N hN Y3 ok.1 ok.2))
  · rw [if_neg c3] at ok ⊢
    rw [if_neg c3, if_pos (show (3 : Int32) < iI (d1 % 8) from (iI_lt (a := 3) (by omega) (by omega)).mpr (by omega))]
    by_cases c4 : d1 % 8 = 4
    · rw [if_pos c4] at ok ⊢
      rw [if_pos c4, if_pos (show iI (d1 % 8) = (4 : Int32) by rw [c4]; rfl), show (21 : Int32) = iI 21 from rfl, hdr1 21 (by omega), show (10 : Int32) = iI 10 from rfl, iI_sub, bn_i, show (3 : Int32) = iI 3 from rfl, show (0 : Int32) = iI 0 from rfl]
      exact YG.go (w := 0) T2 m2 r2 (live_110 N hN Y2 ok.1 ok.2)
    · rw [if_neg c4] at ok ⊢
      rw [if_neg c4, if_neg (show ¬ iI (d1 % 8) = (4 : Int32) from fun z => c4 ((iI_eq (b := 4) (by omega) (by omega)).mp z))]
      by_cases c5 : d1 % 8 = 5
      · rw [if_pos c5] at ok ⊢
        rw [if_pos c5, if_pos (show iI (d1 % 8) = (5 : Int32) by rw [c5]; rfl), show (6 : Int32) = iI 6 from rfl, hdr1 6 (by omega), hdr2 6 (by omega), show (4 : Int32) = iI 4 from rfl]
        exact YG.go (w := 0) T2 m2 r2 (YG.go (w := 0) T3 m3 r3 (live_110 N hN Y3 ok.1 ok.2))
      · rw [if_neg c5] at ok ⊢
        rw [if_neg c5, if_neg (show ¬ iI (d1 % 8) = (5 : Int32) from fun z => c5 ((iI_eq (b := 5) (by omega) (by omega)).mp z))]
        by_cases c6 : d1 % 8 = 6
        · rw [if_pos c6] at ok ⊢
          rw [if_pos c6, if_pos (show iI (d1 % 8) = (6 : Int32) by rw [c6]; rfl), show (5 : Int32) = iI 5 from rfl, show (0 : Int32) = iI 0 from rfl]
          exact live_110 N hN Y1 ok.1 ok.2
        · rw [if_neg c6] at ok ⊢
          rw [if_neg c6, if_neg (show ¬ iI (d1 % 8) = (6 : Int32) from fun z => c6 ((iI_eq (b := 6) (by omega) (by omega)).mp z)), show (10 : Int32) = iI 10 from rfl, hdr1 10 (by omega), show (7 : Int32) = iI 7 from rfl, show (0 : Int32) = iI 0 from rfl]
          exact YG.go (w := 0) T2 m2 r2 (live_110 N hN Y2 ok.1 ok.2)
/-- as KE, and the draw is written -/
def KY (ρ : Nat → Nat) (h : hS) (Q : Nat → Nat) (F : FT) (ks : List Nat) {α : Type} (a : α) (k : Int32) (r : Option ((α ⊕ Nat) × hS)) : Prop := ∃ ρ' g, r = some (oc a k, g) ∧ KS ρ' g Q F ks ∧ tr ρ h RY ρ' g ∧ hm g + brs g (Q 4) ≤ hm h + brs h (Q 4) + 19 ∧ h_r g (Q 0) = h_r h (Q 0) ∧ (k ≠ 0 → ∃ g0, g = th g0 ∧ KS ρ' g0 Q F ks ∧ tr ρ h RY ρ' g0 ∧ hm g0 + brs g0 (Q 4) ≤ hm h + brs h (Q 4) ∧ h_r g0 (Q 0) = h_r h (Q 0))
theorem KE.y {a : α} {k : Int32} {r : Option ((α ⊕ Nat) × hS)} (E : KE ρ h Q F ks a k r) (K : KS ρ h Q F ks) : KY ρ h Q F ks a k r := by
  obtain ⟨ρ2, g2, e1, e2, e3, e4, e5⟩ := E
  have hr : ∀ g' : hS, tr ρ h RA ρ2 g' → h_r g' (Q 0) = h_r h (Q 0) := fun g' t => by
    obtain ⟨b1, b2, b3, b4⟩ := t.2 (Q 0) K.x.2.2
    exact (b4 (by rw [K.x.2.1]; unfold RA RB; omega)).2.2
  exact ⟨ρ2, g2, e1, e2, e3.mono (fun q hq => Or.inl hq), e4, hr g2 e3, fun z => by obtain ⟨g0, y1, y2, y3, y4⟩ := e5 z; exact ⟨g0, y1, y2, y3.mono (fun q hq => Or.inl hq), y4, hr g0 y3⟩⟩
theorem KY.go {ρ1 : Nat → Nat} {g1 : hS} {a : α} {k : Int32} {r : Option ((α ⊕ Nat) × hS)} (T : tr ρ h RY ρ1 g1) (hm1 : hm g1 + brs g1 (Q 4) ≤ hm h + brs h (Q 4)) (hr : h_r g1 (Q 0) = h_r h (Q 0)) (E : KY ρ1 g1 Q F ks a k r) : KY ρ h Q F ks a k r := by
  obtain ⟨ρ2, g2, e1, e2, e3, e4, e6, e5⟩ := E
  exact ⟨ρ2, g2, e1, e2, T.trans e3, by omega, e6.trans hr, fun z => by obtain ⟨g0, y1, y2, y3, y4, y5⟩ := e5 z; exact ⟨g0, y1, y2, T.trans y3, by omega, y5.trans hr⟩⟩
def zYa (Z : Nat → Int) (w : Int) : Int := if w = 0 then zLeast Z else if w = 1 then (zK Z).length else zVal Z 0
theorem years_loop (N : Nat) (hN : 20000 ≤ N) {n : Nat} (hn : n ≤ 20) {w : Int} (hw : 0 ≤ w ∧ w ≤ 2) : ∀ (m i : Nat) (ρ : Nat → Nat) (h : hS) (v : Int32) (Z : Nat → Int) (fuel : Nat), i + m = n → YS ρ h Q F ks v Z → ∃ Z', zYs m v Z Z' ∧ KY ρ h Q F ks (lI (zYa Z' w)) 0 (f_K_years_55 N (m + (fuel + 1)) h (Q 0) (iI n) (iI w) (iI i)) := by
  intro m
  induction m with
  | zero =>
    intro i ρ h v Z fuel hi Y
    obtain ⟨K, e, B⟩ := Y
    refine ⟨Z, rfl, ?_⟩
    have h4 := K.ko (i := 4) (k := 2) (l := 1) (n := 0) (by decide)
    obtain ⟨w0, s, lw, ls, B, cz, _⟩ := B
    have hl := cz.1.len
    rw [Nat.zero_add]
    unfold f_K_years_55 f_K_years_116
    rw [if_pos ((iI_le (by omega) (by omega)).mpr (by omega)), gR_k K.x.1, K.ref (i := 0) (k := 4) (j := 4) (by decide), gR_k (show h_k h (Q 4) = 1 + 1 from h4.1), B.2.1.1, gJ_k cz.1.k, cz.1.f.2.2.2]
    unfold zYa
    by_cases w0 : w = 0
    · rw [if_pos w0, if_pos (show iI w = (0 : Int32) by rw [w0]; rfl)]
      exact (KE.ok K rfl).y K
    · rw [if_neg w0, if_neg (show ¬ iI w = (0 : Int32) from fun z => w0 ((iI_eq (b := 0) (by omega) (by omega)).mp z)), gR_k K.x.1, K.ref (i := 0) (k := 4) (j := 4) (by decide), gR_k (show h_k h (Q 4) = 1 + 1 from h4.1), B.2.1.1]
      by_cases w1 : w = 1
      · rw [if_pos w1, if_pos (show iI w = (1 : Int32) by rw [w1]; rfl), gI_k cz.1.k, cz.1.f.1, iI_l (by omega) (by omega)]
        exact (KE.ok K rfl).y K
      · rw [if_neg w1, if_neg (show ¬ iI w = (1 : Int32) from fun z => w1 ((iI_eq (b := 1) (by omega) (by omega)).mp z)), gR_k K.x.1, K.ref (i := 0) (k := 4) (j := 4) (by decide), gR_k (show h_k h (Q 4) = 1 + 1 from h4.1), B.2.1.1, cv_k cz.1.k, show (0 : Int32) = iI 0 from rfl, cval_is N (by omega) cz.1 (by omega), cl_s, kv_val cz.2.1]
        exact (KE.ok K rfl).y K
  | succ m ih =>
    intro i ρ h v Z fuel hi Y
    obtain ⟨ρ1, g1, Z1, a1, a2, a3, a4, a5, a6⟩ := live_is N hN Y
    obtain ⟨Z', z1, z2⟩ := ih (i + 1) ρ1 g1 _ Z1 fuel (by omega) a2
    refine ⟨Z', ⟨Z1, a3, z1⟩, ?_⟩
    rw [show m + 1 + (fuel + 1) = (m + (fuel + 1)) + 1 by omega]
    generalize hR : f_K_years_55 N (m + (fuel + 1)) = R at z2
    unfold f_K_years_55 f_K_years_65
    rw [hR, if_neg (fun z => absurd ((iI_le (by omega) (by omega)).mp z) (by omega)), cv_k Y.1.x.1, a1, cl_s, bn_i, show (1 : Int32) = iI 1 from rfl, iI_add, show (i : Int) + 1 = ((i + 1 : Nat) : Int) by omega]
    exact KY.go a4 a5 a6 z2
theorem years_K (N : Nat) (hN : 20000 ≤ N) (K : KS ρ h Q F ks) (sd : Int32) {n w : Int} (hn : i32 n) (hw : i32 w) {Z' : Nat → Int} (hZ : (0 ≤ w ∧ w ≤ 2) ∧ (0 ≤ n ∧ n ≤ 20) → zYs n.toNat sd (zC F.1.1 0) Z') : KY ρ h Q F ks (if (0 ≤ w ∧ w ≤ 2) ∧ (0 ≤ n ∧ n ≤ 20) then lI (zYa Z' w) else 0) (if 0 ≤ w ∧ w ≤ 2 then (if 0 ≤ n ∧ n ≤ 20 then 0 else 2) else 1) (f_K_years N h (Q 0) sd (iI n) (iI w)) := by
  unfold i32 at hn hw
  unfold f_K_years f_K_years_13 f_K_years_14
  by_cases w1 : 0 ≤ w ∧ w ≤ 2
  · rw [if_pos w1, if_neg (show ¬ iI w < (0 : Int32) from fun z => absurd ((iI_lt (b := 0) hw (by omega)).mp z) (by omega)), if_neg (show ¬ (2 : Int32) < iI w from fun z => absurd ((iI_lt (a := 2) (by omega) hw).mp z) (by omega)), such_1, clT_l]
    unfold f_K_years_17 f_K_years_31 f_K_years_32
    by_cases n1 : 0 ≤ n ∧ n ≤ 20
    · rw [if_pos ⟨w1, n1⟩, if_pos n1, if_neg (show ¬ iI n < (0 : Int32) from fun z => absurd ((iI_lt (b := 0) hn (by omega)).mp z) (by omega)), if_neg (show ¬ (20 : Int32) < iI n from fun z => absurd ((iI_lt (a := 20) (by omega) hn).mp z) (by omega)), fit_1, clT_l]
      unfold f_K_years_35 f_K_years_49 f_K_years_52
      obtain ⟨K1, b1⟩ := K.drawn sd
      have t1 : tr ρ h RY ρ (s_i h (Q 0) 8 sd) := tr_si (Or.inr K.x.2.1)
      have e1 : h_i (s_i h (Q 0) 8 sd) (Q 0) 8 = sd := by rw [h_i_si, if_pos rfl]; rfl
      rw [pI_k K.x.1]
      refine KY.go t1 (by rw [b1]; exact Nat.le_refl _) (by rw [h_r_si]) ?_
      generalize s_i h (Q 0) 8 sd = h1 at *
      have h4 := K1.ko (i := 4) (k := 2) (l := 1) (n := 0) (by decide)
      obtain ⟨ρ2, g2, a1, a2, a3, a4⟩ := startWith_is N K1.2.1.1 (K1.cz (c := 0) (by omega)) (fun q => by unfold RW at q; simp at q)
      obtain ⟨K2, T2⟩ := K1.goB (a2.mono RW_B) a4.x
      have r2 : h_r g2 (Q 0) = h_r h1 (Q 0) := by
        obtain ⟨c1, c2, c3, c4⟩ := a2.2 (Q 0) K1.x.2.2
        exact (c4 (by rw [K1.x.2.1]; unfold RW; omega)).2.2
      have e2 : h_i g2 (Q 0) 8 = sd := by
        obtain ⟨c1, c2, c3, c4⟩ := a2.2 (Q 0) K1.x.2.2
        rw [(c4 (by rw [K1.x.2.1]; unfold RW; omega)).1]
        exact e1
      obtain ⟨fuel, hfu⟩ : ∃ fuel, N = n.toNat + (fuel + 1) := ⟨N - n.toNat - 1, by omega⟩
      obtain ⟨Z'', z1, z2⟩ := years_loop N hN (n := n.toNat) (by omega) w1 n.toNat 0 ρ2 g2 sd (zC F.1.1 0) fuel (by omega) ⟨K2, e2, a4⟩
      rw [← hfu, show ((n.toNat : Nat) : Int) = n by omega] at z2
      rw [zYs_un (hZ ⟨w1, n1⟩) z1]
      rw [gR_k K1.x.1, K1.ref (i := 0) (k := 4) (j := 4) (by decide), cvT_k K1.x.1, show f_K_curveOf N h1 (Q 0) (0 : Int32) = _ from curve_y N K1 (c := 0) (by omega), clT_l, cv_k (show h_k h1 (Q 4) = 1 + 1 from h4.1), a1, cl_s]
      exact KY.go (T2.mono (fun q hq => Or.inl hq)) a3 r2 z2
    · rw [if_neg (fun q => n1 q.2), if_neg n1]
      by_cases n0 : n < 0
      · rw [if_pos (show iI n < (0 : Int32) from (iI_lt (b := 0) hn (by omega)).mpr n0), fit_0, clT_r]
        exact (KE.t2 K rfl).y K
      · rw [if_neg (show ¬ iI n < (0 : Int32) from fun z => n0 ((iI_lt (b := 0) hn (by omega)).mp z)), if_pos (show (20 : Int32) < iI n from (iI_lt (a := 20) (by omega) hn).mpr (by omega)), fit_0, clT_r]
        exact (KE.t2 K rfl).y K
  · rw [if_neg (fun q => w1 q.1), if_neg w1]
    by_cases w0 : w < 0
    · rw [if_pos (show iI w < (0 : Int32) from (iI_lt (b := 0) hw (by omega)).mpr w0), such_0, clT_r]
      exact (KE.t1 K rfl).y K
    · rw [if_neg (show ¬ iI w < (0 : Int32) from fun z => w0 ((iI_lt (b := 0) hw (by omega)).mp z)), if_pos (show (2 : Int32) < iI w from (iI_lt (a := 2) (by omega) hw).mpr (by omega)), such_0, clT_r]
      exact (KE.t1 K rfl).y K
end
