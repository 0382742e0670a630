/-! ACTS OF THE CLASS: what is written, piece by piece -/
section
variable {ρ ρ' : Nat → Nat} {h g : hS} {Q : Nat → Nat} {S S' : StT} {Zs Zs' : Nat → Nat → Int} {I : Option StT} {T : Nat × (Nat → Int)} {f : Int} {ks ks' : List Nat} {R : Nat → Prop}
theorem RB_C (q : Nat) (z : RB q) : RC q := by unfold RB at z; unfold RC; omega
theorem r19_C (q : Nat) (z : rg 19 q) : RC q := by have : q = 19 := z; unfold RC; omega
theorem r11_C (q : Nat) (z : rg 11 q) : RC q := by have : q = 11 := z; unfold RC; omega
theorem T100_C (q : Nat) (z : RT1 100 q) : RC q := by unfold RT1 at z; unfold RC; omega
theorem RC_30 : ¬ RC 30 := fun z => z.2.2 rfl
/-- the bench is written -/
theorem KW.bw (K : KW ρ h Q S Zs I T f ks) (t : tr ρ h RB ρ' g) (hB : BX ρ' g (Q 4) (Q 24) (Q 25)) : KW ρ' g Q S Zs I T f ks ∧ (hm g + brs g (Q 4) ≤ hm h + brs h (Q 4) → hm g + kpt g Q ≤ hm h + kpt h Q) := by
  have n : ∀ q, ¬ (1 ≤ q ∧ q ≤ 5) → ¬ RB q := fun q hq z => hq z
  obtain ⟨nD, pD, YD, D⟩ := K.2.1.2.2.2
  refine ⟨K.put t (n _ (by omega)) (n _ (by omega)) (n _ (by omega)) (n _ (by omega)) (fun q h1 h2 => n _ (by omega)) hB (K.2.1.2.1.keep t (n _ (by omega)) (n _ (by omega))) (K.2.1.2.2.1.keep t (n _ (by omega))).1 ⟨nD, pD, YD, D.keep t (n _ (by omega)) (n _ (by omega))⟩ (fun d hd => (K.2.2.1 d hd).keep t (n _ (by omega))) (K.2.2.2.1.keep t (n _ (by omega)) (fun q h1 h2 => n _ (by omega))), fun hm1 => ?_⟩
  unfold kpt
  rw [K.psh t (n _ (by omega)), K.pc t (fun c hc => n _ (by omega)), K.pn t (n _ (by omega)) (fun q h1 h2 => n _ (by omega)), K.pd t (n _ (by omega)), K.pim t (n _ (by omega)) (n _ (by omega)) (fun q h1 h2 => n _ (by omega)), K.ptp t (n _ (by omega))]
  omega
/-- the draft is written -/
theorem KW.dw (K : KW ρ h Q S Zs I T f ks) (t : tr ρ h (rg 19) ρ' g) (D' : ∃ n p Y, CH ρ' 19 g (Q 15) n p Y) : KW ρ' g Q S Zs I T f ks ∧ (hm g + rch g (Q 15) ≤ hm h + rch h (Q 15) → hm g + kpt g Q ≤ hm h + kpt h Q) := by
  have n : ∀ q, q ≠ 19 → ¬ rg 19 q := fun q hq z => hq z
  have hB := K.2.1.1.keep t (fun q hq => n q (by unfold RB at hq; omega))
  refine ⟨K.put t (n _ (by omega)) (n _ (by omega)) (n _ (by omega)) (n _ (by omega)) (fun q h1 h2 => n _ (by omega)) hB.1 (K.2.1.2.1.keep t (n _ (by omega)) (n _ (by omega))) (K.2.1.2.2.1.keep t (n _ (by omega))).1 D' (fun d hd => (K.2.2.1 d hd).keep t (n _ (by omega))) (K.2.2.2.1.keep t (n _ (by omega)) (fun q h1 h2 => n _ (by omega))), fun hm1 => ?_⟩
  unfold kpt
  rw [hB.2, K.psh t (n _ (by omega)), K.pc t (fun c hc => n _ (by omega)), K.pn t (n _ (by omega)) (fun q h1 h2 => n _ (by omega)), K.pim t (n _ (by omega)) (n _ (by omega)) (fun q h1 h2 => n _ (by omega)), K.ptp t (n _ (by omega))]
  omega
/-- the state is written -/
theorem KW.sw (K : KW ρ h Q S Zs I T f ks) (t : tr ρ h (RT1 100) ρ' g) (X : SX ρ' g Q 100 S') : KW ρ' g Q S' Zs I T f ks ∧ (hm g + pSt g (Q 16) ≤ hm h + pSt h (Q 16) → hm g + kpt g Q ≤ hm h + kpt h Q) := by
  have n : ∀ q, ¬ (100 ≤ q ∧ q < 150) → ¬ RT1 100 q := fun q hq z => hq z
  have hB := K.2.1.1.keep t (fun q hq => n q (by unfold RB at hq; omega))
  obtain ⟨nD, pD, YD, D⟩ := K.2.1.2.2.2
  refine ⟨K.put t (n _ (by omega)) (n _ (by omega)) (n _ (by omega)) (n _ (by omega)) (fun q h1 h2 => n _ (by omega)) hB.1 (K.2.1.2.1.keep t (n _ (by omega)) (n _ (by omega))) (K.2.1.2.2.1.keep t (n _ (by omega))).1 ⟨nD, pD, YD, D.keep t (n _ (by omega)) (n _ (by omega))⟩ (fun d hd => (K.2.2.1 d hd).keep t (n _ (by omega))) X, fun hm1 => ?_⟩
  unfold kpt
  rw [hB.2, K.psh t (n _ (by omega)), K.pc t (fun c hc => n _ (by omega)), K.pd t (n _ (by omega)), K.pim t (n _ (by omega)) (n _ (by omega)) (fun q h1 h2 => n _ (by omega)), K.ptp t (n _ (by omega))]
  omega
/-- one refusal more is counted -/
def rfS (S : StT) (k : Nat) : StT := (S.1, S.2.1, S.2.2.1, S.2.2.2.1, S.2.2.2.2.1, S.2.2.2.2.2.1, (fun j => if j = k then S.2.2.2.2.2.2 k + 1 else S.2.2.2.2.2.2 j))
theorem vS_rf {k : Nat} (v : vS S) : vS (rfS S k) := v
theorem KW.rf (K : KW ρ h Q S Zs I T f ks) {k : Nat} (hk : k < 3) : KW ρ (s_i h (Q 37) k (S.2.2.2.2.2.2 k + 1)) Q (rfS S k) Zs I T f ks ∧ tr ρ h RC ρ (s_i h (Q 37) k (S.2.2.2.2.2.2 k + 1)) ∧ hm (s_i h (Q 37) k (S.2.2.2.2.2.2 k + 1)) + kpt (s_i h (Q 37) k (S.2.2.2.2.2.2 k + 1)) Q ≤ hm h + kpt h Q := by
  obtain ⟨lab, Y⟩ := K.2.2.2.1.y
  have t : tr ρ h (RT1 100) ρ (s_i h (Q 37) k (S.2.2.2.2.2.2 k + 1)) := tr_lt (tr_si Y.f37.2.1)
  have Y1 := Y.wu (by omega) k (S.2.2.2.2.2.2 k + 1)
  obtain ⟨K1, m1⟩ := K.sw t (S' := rfS S k) Y1.x
  exact ⟨K1, t.mono T100_C, m1 (Nat.le_refl _)⟩
theorem refuse_is (N : Nat) (K : KW ρ h Q S Zs I T f ks) : ∃ g, f_K_refuseAct N h (Q 0) = some (-1, g) ∧ tr ρ h RC ρ g ∧ KW ρ g Q (rfS S 1) Zs I T f ks ∧ hm g + kpt g Q ≤ hm h + kpt h Q := by
  obtain ⟨lab, Y⟩ := K.2.2.2.1.y
  obtain ⟨a1, a2, a3⟩ := K.rf (k := 1) (by omega)
  refine ⟨_, ?_, a2, a1, a3⟩
  unfold f_K_refuseAct
  rw [gR_k K.x.1, K.ref (i := 0) (k := 16) (j := 16) (by decide), gR_k Y.f16.1, Y.ref (i := 16) (k := 7) (j := 37) (by decide), show (1 : Int32) = iI 1 from rfl, aI_iI (z := 1) ⟨Y.f37.1, Y.f37.2.2.1⟩ (by omega) (by omega) (by omega), uI_iI (z := 1) ⟨Y.f37.1, Y.f37.2.2.1⟩ (by omega) (by omega) (by omega), show (1 : Int).toNat = 1 from rfl, Y.2.2.2.2.2.2 1 (by omega)]
end
/-- numbers as a kind wants them -/
def loF (kd : Int) : Int := if kd ≤ 3 then -500 else 0
def hiF (kd : Int) : Int := if kd ≤ 3 then 500 else if kd = 4 then 99 else if kd = 7 then 999 else if kd = 8 then 3 else 0
def okNum (kd a b : Int) : Prop := (1 ≤ zNum kd → loF kd ≤ a ∧ a ≤ hiF kd) ∧ (zNum kd = 2 → 0 ≤ b ∧ b ≤ 99)
theorem loF_at : ∀ k : Fin 9, ([-500, -500, -500, -500, 0, 0, 0, 0, 0] : List Int)[k.val] = loF (k.val : Int) := by decide
theorem hiF_at : ∀ k : Fin 9, ([500, 500, 500, 500, 99, 0, 0, 999, 3] : List Int)[k.val] = hiF (k.val : Int) := by decide
theorem loF_r (kd : Int) : -500 ≤ loF kd ∧ loF kd ≤ 0 := by unfold loF; split <;> omega
theorem hiF_r (kd : Int) : 0 ≤ hiF kd ∧ hiF kd ≤ 999 := by unfold hiF; repeat' split
                                                           all_goals omega
theorem okNum.arg {kd a b : Int} (hk : 0 ≤ kd ∧ kd ≤ 8) (o : okNum kd a b) : okArg kd (zSt kd a b).2.1 (zSt kd a b).2.2 := by
  obtain ⟨o1, o2⟩ := o
  unfold zNum loF hiF at o1
  unfold zNum at o2
  unfold okArg zSt zNum
  simp only []
  refine ⟨hk, fun q => ?_, fun q => ?_, fun q => ?_, fun q => ?_⟩
  · rw [if_pos (Or.inl q)] at o1 o2
    rw [if_pos (show kd ≤ 3 by omega), if_pos (show kd ≤ 3 by omega)] at o1
    rw [if_pos (Or.inl q), if_pos (show (1 : Int) ≤ 2 by omega), if_pos rfl]
    exact ⟨o1 (by omega), o2 rfl⟩
  · subst q
    have := o1 (by decide)
    simp at this
    simp
    omega
  · subst q
    have h1 := o1 (by decide)
    have h2 := o2 (by decide)
    simp at h1
    simp
    omega
  · subst q
    have := o1 (by decide)
    simp at this
    simp
    omega
section
variable {ρ : Nat → Nat} {h : hS}
theorem areN_is (N : Nat) (C : CN ρ h) {kd a b : Int} (hk : 0 ≤ kd ∧ kd ≤ 8) (ha : i32 a) (hb : i32 b) : ∃ v : Int32, f_K_areNumbersOf N h (iI kd) (iI a) (iI b) = some (v, h) ∧ (okNum kd a b → v = 1) ∧ (¬ okNum kd a b → v = 0) := by
  unfold i32 at ha hb
  have hz := zNum_rng kd
  have second : ∃ v : Int32, f_K_areNumbersOf_30 N h (iI b) (iI (zNum kd)) = some (v, h) ∧ ((zNum kd = 2 → 0 ≤ b ∧ b ≤ 99) → v = 1) ∧ (¬ (zNum kd = 2 → 0 ≤ b ∧ b ≤ 99) → v = 0) := by
    unfold f_K_areNumbersOf_30 f_K_areNumbersOf_45 f_K_areNumbersOf_49 f_K_areNumbersOf_50
    by_cases e2 : zNum kd = 2
    · rw [if_neg (show ¬ iI (zNum kd) < (2 : Int32) from fun z => absurd ((iI_lt (b := 2) (by omega) (by omega)).mp z) (by omega))]
      by_cases b0 : b < 0
      · rw [if_pos (show iI b < (0 : Int32) from (iI_lt (b := 0) hb (by omega)).mpr b0)]
        exact ⟨0, bz_0, fun q => by have := q e2; omega, fun _ => rfl⟩
      · rw [if_neg (show ¬ iI b < (0 : Int32) from fun z => b0 ((iI_lt (b := 0) hb (by omega)).mp z))]
        by_cases b9 : 99 < b
        · rw [if_pos (show (99 : Int32) < iI b from (iI_lt (a := 99) (by omega) hb).mpr b9)]
          exact ⟨0, bz_0, fun q => by have := q e2; omega, fun _ => rfl⟩
        · rw [if_neg (show ¬ (99 : Int32) < iI b from fun z => b9 ((iI_lt (a := 99) (by omega) hb).mp z))]
          exact ⟨1, bz_1, fun _ => rfl, fun q => absurd (fun _ => ⟨by omega, by omega⟩) q⟩
    · rw [if_pos (show iI (zNum kd) < (2 : Int32) from (iI_lt (b := 2) (by omega) (by omega)).mpr (by omega))]
      exact ⟨1, bz_1, fun _ => rfl, fun q => absurd (fun z => absurd z e2) q⟩
  obtain ⟨v, s1, s2, s3⟩ := second
  have k1 : kd.toNat < 9 := by omega
  have k2 : ((kd.toNat : Nat) : Int) = kd := by omega
  have lo1 := loF_at ⟨kd.toNat, k1⟩
  have hi1 := hiF_at ⟨kd.toNat, k1⟩
  simp only [k2] at lo1 hi1
  have rl := loF_r kd
  have rh := hiF_r kd
  unfold f_K_areNumbersOf
  rw [nums_is N C hk, cl_s]
  by_cases e1 : 1 ≤ zNum kd
  · rw [if_neg (show ¬ iI (zNum kd) < (1 : Int32) from fun z => absurd ((iI_lt (b := 1) (by omega) (by omega)).mp z) (by omega)), bn_i, ← k2, C.2.2.2.1.at (by decide) (show kd.toNat < ([-500, -500, -500, -500, 0, 0, 0, 0, 0] : List Int).length from k1), lo1]
    by_cases a1 : a < loF kd
    · rw [if_pos ((iI_lt ha (by omega)).mpr a1)]
      unfold f_K_areNumbersOf_28
      exact ⟨0, bz_0, fun q => by rw [k2] at q; have := q.1 e1; omega, fun _ => rfl⟩
    · rw [if_neg (fun z => a1 ((iI_lt ha (by omega)).mp z)), bn_i, C.2.2.2.2.at (by decide) (show kd.toNat < ([500, 500, 500, 500, 99, 0, 0, 999, 3] : List Int).length from k1), hi1]
      by_cases a2 : a ≤ hiF kd
      · rw [if_pos ((iI_le ha (by omega)).mpr a2), k2]
        exact ⟨v, s1, fun q => s2 q.2, fun q => s3 (fun z => q ⟨fun _ => ⟨by omega, a2⟩, z⟩)⟩
      · rw [if_neg (fun z => a2 ((iI_le ha (by omega)).mp z))]
        unfold f_K_areNumbersOf_28
        exact ⟨0, bz_0, fun q => by rw [k2] at q; have := q.1 e1; omega, fun _ => rfl⟩
  · rw [if_pos (show iI (zNum kd) < (1 : Int32) from (iI_lt (b := 1) (by omega) (by omega)).mpr (by omega))]
    exact ⟨v, s1, fun q => s2 q.2, fun q => s3 (fun z => q ⟨fun y => absurd y e1, z⟩)⟩
end
/-- a step that may be told to a cost -/
def tellable (C : Cs) (c kd a b : Int) : Prop := (0 ≤ c ∧ c ≤ 3) ∧ (0 ≤ kd ∧ kd ≤ 8) ∧ okNum kd a b ∧ ¬ (kd = 8 ∧ a = c) ∧ (C c.toNat).1 < 40
section
variable {ρ ρ' : Nat → Nat} {h g : hS} {Q : Nat → Nat} {S S' : StT} {Zs Zs' : Nat → Nat → Int} {I : Option StT} {T : Nat × (Nat → Int)} {f : Int} {ks ks' : List Nat} {R : Nat → Prop}
theorem KW.ch (K : KW ρ h Q S Zs I T f ks) {c : Nat} (hc : c < 4) : CH ρ (101 + c) h (Q (40 + c)) (S.1 c).1 (S.1 c).2.1 (S.1 c).2.2 := by
  obtain ⟨lab, Y⟩ := K.2.2.2.1.y
  have := Y.2.2.1 c hc
  rw [show 100 + 1 + c = 101 + c by omega] at this
  exact this
theorem tellb_is (N : Nat) (K : KW ρ h Q S Zs I T f ks) (C : CN ρ h) {c kd a b : Int} (hc : i32 c) (hk : i32 kd) (ha : i32 a) (hb : i32 b) : ∃ v : Int32, f_K_isTellable N h (Q 0) (iI c) (iI kd) (iI a) (iI b) = some (v, h) ∧ (tellable S.1 c kd a b → v = 1) ∧ (¬ tellable S.1 c kd a b → v = 0) := by
  unfold f_K_isTellable f_K_isTellable_24 f_K_isTellable_37 f_K_isTellable_42 f_K_isTellable_54 f_K_isTellable_55
  by_cases h1 : 0 ≤ c ∧ c ≤ 3
  · rw [kcost_y N h h1, cl_s, if_neg (by decide)]
    by_cases h2 : 0 ≤ kd ∧ kd ≤ 8
    · rw [kind_y N h h2, cl_s, if_neg (by decide)]
      obtain ⟨v, v1, v2, v3⟩ := areN_is N C h2 ha hb
      rw [v1, cl_s]
      by_cases h3 : okNum kd a b
      · rw [if_neg (show ¬ v = 0 by rw [v2 h3]; decide)]
        obtain ⟨c1, c2⟩ := n4 h1
        have Cc := K.ch c1
        have fin : ¬ (kd = 8 ∧ a = c) → ∃ v : Int32, (cv h (some (Q 0)) 12 (fun a => fN (f_K_chainOf N h a (iI c))) fun v1 h2 => gI h2 v1 2 1 fun v1 => if (40 : Int32) ≤ v1 then bz (0 : Int32) (some ((0 : Int32), h2)) else bz (1 : Int32) (some ((1 : Int32), h2))) = some (v, h) ∧ (tellable S.1 c kd a b → v = 1) ∧ (¬ tellable S.1 c kd a b → v = 0) := fun hq => by
          rw [← c2, chain_w N K c1, gI_k Cc.k, Cc.sz.1, c2]
          have h40 := Cc.sz.2
          by_cases h4 : (S.1 c.toNat).1 < 40
          · rw [if_neg (show ¬ (40 : Int32) ≤ iI ((S.1 c.toNat).1 : Int) from fun z => absurd ((iI_le (a := 40) (by omega) (by omega)).mp z) (by omega))]
            exact ⟨1, bz_1, fun _ => rfl, fun q => absurd ⟨h1, h2, h3, hq, h4⟩ q⟩
          · rw [if_pos (show (40 : Int32) ≤ iI ((S.1 c.toNat).1 : Int) from (iI_le (a := 40) (by omega) (by omega)).mpr (by omega))]
            exact ⟨0, bz_0, fun q => absurd q.2.2.2.2 h4, fun _ => rfl⟩
        by_cases e8 : kd = 8
        · rw [if_pos (show iI kd = (8 : Int32) by rw [e8]; rfl)]
          by_cases ea : a = c
          · rw [if_pos (show iI a = iI c by rw [ea])]
            exact ⟨0, bz_0, fun q => absurd ⟨e8, ea⟩ q.2.2.2.1, fun _ => rfl⟩
          · rw [if_neg (fun z => ea ((iI_eq ha hc).mp z))]
            exact fin (fun q => ea q.2)
        · rw [if_neg (show ¬ iI kd = (8 : Int32) from fun z => e8 ((iI_eq (b := 8) hk (by omega)).mp z))]
          exact fin (fun q => e8 q.1)
      · rw [if_pos (show v = 0 from v3 h3)]
        exact ⟨0, bz_0, fun q => absurd q.2.2.1 h3, fun _ => rfl⟩
    · rw [kind_n N h hk h2, cl_s, if_pos rfl]
      exact ⟨0, bz_0, fun q => absurd q.2.1 h2, fun _ => rfl⟩
  · rw [kcost_n N h hc h1, cl_s, if_pos rfl]
    exact ⟨0, bz_0, fun q => absurd q.1 h1, fun _ => rfl⟩
end
