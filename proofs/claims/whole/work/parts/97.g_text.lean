/-! TEXT OF THE CLASS -/
section
variable {ρ ρ' : Nat → Nat} {h g : hS} {Q : Nat → Nat} {S S' : StT} {Zs Zs' : Nat → Nat → Int} {I I' : Option StT} {T T' : Nat × (Nat → Int)} {f f' : Int} {ks ks' : List Nat} {F : FT}
/-- the reader is written -/
theorem KW.rdw (K : KW ρ h Q S Zs I T f ks) (t : tr ρ h (rg 18) ρ' g) (hr : ∀ k, k < 4 → h_r g (Q 3) k = h_r h (Q 3) k) : KW ρ' g Q S Zs I T f ks ∧ kpt g Q = kpt h Q := by
  have n : ∀ q, q ≠ 18 → ¬ rg 18 q := fun q hq z => hq z
  have hB := K.2.1.1.keep t (fun q hq => n q (by unfold RB at hq; omega))
  obtain ⟨nD, pD, YD, D⟩ := K.2.1.2.2.2
  have hx := K.x.2
  have s0 := K.1.1.same t (e := (0, 13, 17, 0)) (by decide) (n _ (by decide))
  have s13 := K.1.1.same t (e := (13, 63, 6, 4)) (by decide) (n _ (by decide))
  simp only [] at s0 s13
  have RFg : RF refK g Q := fun e he => by
    have q := K.1.2.1 e he
    simp only [refK, List.mem_cons, List.not_mem_nil, or_false] at he
    rcases he with he | he | he | he | he | he | he | he | he | he | he | he | he | he | he | he | he | he | he | he | he <;> subst he
    all_goals first | (rw [s0.2.2]; exact q) | (rw [s13.2.2]; exact q) | (rw [hr _ (by decide)]; exact q)
  refine ⟨⟨⟨K.1.1.keep t, RFg, K.1.2.2⟩, ⟨hB.1, K.2.1.2.1.keep t (n _ (by omega)) (n _ (by omega)), (K.2.1.2.2.1.keep t (n _ (by omega))).1, nD, pD, YD, D.keep t (n _ (by omega)) (n _ (by omega))⟩, fun d hd => (K.2.2.1 d hd).keep t (n _ (by omega)), K.2.2.2.1.keep t (n _ (by omega)) (fun q h1 h2 => n _ (by omega)), K.2.2.2.2.1.keep t hx (n _ (by omega)) (n _ (by omega)) (fun q h1 h2 => n _ (by omega)), K.2.2.2.2.2.1.keep t hx (n _ (by omega)), by rw [s0.1]; exact K.2.2.2.2.2.2⟩, ?_⟩
  unfold kpt
  rw [hB.2, K.psh t (n _ (by omega)), K.pc t (fun c hc => n _ (by omega)), K.pn t (n _ (by omega)) (fun q h1 h2 => n _ (by omega)), K.pd t (n _ (by omega)), K.pim t (n _ (by omega)) (n _ (by omega)) (fun q h1 h2 => n _ (by omega)), K.ptp t (n _ (by omega))]
/-- the place of a fault is written -/
theorem KW.fw (K : KW ρ h Q S Zs I T f ks) (f' : Int) : KW ρ (s_i h (Q 0) 2 (iI f')) Q S Zs I T f' ks ∧ tr ρ h RC ρ (s_i h (Q 0) 2 (iI f')) ∧ hm (s_i h (Q 0) 2 (iI f')) + kpt (s_i h (Q 0) 2 (iI f')) Q = hm h + kpt h Q := by
  have x := K.x
  have t : tr ρ h (rg 17) ρ (s_i h (Q 0) 2 (iI f')) := tr_si x.2.1
  have im : IM ρ (s_i h (Q 0) 2 (iI f')) (Q 0) I := by
    have := K.2.2.2.2.1
    revert this
    cases I with
    | none => exact fun z => z
    | some S1 =>
      rintro ⟨P, p1, p2, p3⟩
      exact ⟨P, p1, p2.keep t (fun z => by have : (9 : Nat) = 17 := z; omega) (fun q h1 h2 z => by have : q = 17 := z; omega), p3⟩
  obtain ⟨q1, tp, q2, q3, q4, q5, q6, q7, q8⟩ := K.2.2.2.2.2.1
  have ne : tp ≠ Q 0 := fun e => by have := x.1; rw [← e, q3] at this; exact absurd this (by decide)
  have tpp : TP ρ (s_i h (Q 0) 2 (iI f')) (Q 0) T := ⟨by rw [h_i_si, if_pos rfl, upd_o (by decide)]; exact q1, tp, q2, q3, q4, q5, q6, q7, fun i hi => by rw [h_i_si, if_neg ne]; exact q8 i hi⟩
  obtain ⟨K1, m1⟩ := K.ow t (I' := I) (T' := T) (f' := f') (fun _ _ _ => rfl) im tpp (by rw [h_i_si, if_pos rfl, upd_a])
  have p1 : pIm (s_i h (Q 0) 2 (iI f')) (Q 0) = pIm h (Q 0) := rfl
  have p2 : pTp (s_i h (Q 0) 2 (iI f')) (Q 0) = pTp h (Q 0) := rfl
  have p3 : hm (s_i h (Q 0) 2 (iI f')) = hm h := rfl
  exact ⟨K1, t.mono (fun q z => by have : q = 17 := z; unfold RC; omega), by omega⟩
theorem refT_is (N : Nat) (K : KW ρ h Q S (zC S.1) I T f ks) (v : vS S) (x : Int32) (p : Int) : ∃ g, f_K_refuseText N h (Q 0) x (iI p) = some (x, g) ∧ tr ρ h RC ρ g ∧ KS ρ g Q (rfS S 0, I, T, p) ks ∧ hm g + kpt g Q ≤ hm h + kpt h Q := by
  obtain ⟨K1, t1, m1⟩ := K.fw p
  obtain ⟨lab, Y⟩ := K1.2.2.2.1.y
  obtain ⟨a1, a2, a3⟩ := K1.rf (k := 0) (by omega)
  refine ⟨_, ?_, t1.trans a2, KW.s (F := (rfS S 0, I, T, p)) a1 (fun _ _ => rfl) (vS_rf v), by omega⟩
  unfold f_K_refuseText
  rw [pI_k K.x.1, gR_k K1.x.1, K1.ref (i := 0) (k := 16) (j := 16) (by decide), gR_k Y.f16.1, Y.ref (i := 16) (k := 7) (j := 37) (by decide), show (0 : Int32) = iI 0 from rfl, aI_iI (z := 0) ⟨Y.f37.1, Y.f37.2.2.1⟩ (by omega) (by omega) (by omega), uI_iI (z := 0) ⟨Y.f37.1, Y.f37.2.2.1⟩ (by omega) (by omega) (by omega), show (0 : Int).toNat = 0 from rfl, Y.2.2.2.2.2.2 0 (by omega)]
/-- what the reader holds of clauses, as the draft takes them -/
def rdL (h : hS) (Q : Nat → Nat) (L : List (Nat × Int × Int × Int)) : Prop := (h_i h (Q 3) 4 = iI (L.length : Int)) ∧ ∀ i, (hi : i < L.length) → RW4 h Q i L[i]
theorem rdL.keep {R : Nat → Prop} {L : List (Nat × Int × Int × Int)} (X : rdL h Q L) (K : KW ρ h Q S Zs I T f ks) (t : tr ρ h R ρ' g) (hR : ¬ R 18) : rdL g Q L := by
  have s3 := K.1.1.same t (e := (3, 6, 18, 0)) (by decide) hR
  have s28 := K.1.1.same t (e := (28, 50, 18, 40)) (by decide) hR
  have s29 := K.1.1.same t (e := (29, 50, 18, 40)) (by decide) hR
  have s30 := K.1.1.same t (e := (30, 50, 18, 40)) (by decide) hR
  have s31 := K.1.1.same t (e := (31, 50, 18, 40)) (by decide) hR
  simp only [] at s3 s28 s29 s30 s31
  exact ⟨by rw [s3.1]; exact X.1, fun i hi => by unfold RW4; rw [s28.1, s29.1, s30.1, s31.1]; exact X.2 i hi⟩
theorem draft_loop (N : Nat) (hN : 20000 ≤ N) {L : List (Nat × Int × Int × Int)} {cost : Int} (h40 : L.length ≤ 40) (hL : ∀ c ∈ L, clOk cost c) : ∀ (m i : Nat) (ρ : Nat → Nat) (h : hS) (ks : List Nat) (fuel : Nat), i + m = L.length → KW ρ h Q S (zC S.1) I T f ks → CN ρ h → rdL h Q L → ks.length + 50 < N + i → CH ρ 19 h (Q 15) i (txP L) (txX S.1 L).2.2 → ∃ ρ' g ks', f_K_draftReadSteps_9 N (m + (fuel + 1)) h (Q 0) (iI i) = some ((), g) ∧ tr ρ h (fun q => q = 11 ∨ q = 19) ρ' g ∧ KW ρ' g Q S (zC S.1) I T f ks' ∧ CH ρ' 19 g (Q 15) L.length (txP L) (txX S.1 L).2.2 ∧ ks'.length ≤ ks.length + m ∧ hm g + kpt g Q ≤ hm h + kpt h Q + 284 * m := by
  intro m
  induction m with
  | zero =>
    intro i ρ h ks fuel hi K C X hks D
    have e : i = L.length := by omega
    subst e
    refine ⟨ρ, h, ks, ?_, tr.rf, K, D, by omega, by omega⟩
    rw [Nat.zero_add]
    unfold f_K_draftReadSteps_9 f_K_draftReadSteps_71
    rw [gR_k K.x.1, K.ref (i := 0) (k := 3) (j := 3) (by decide), gI_k (show h_k h (Q 3) = 5 + 1 from (K.ko (i := 3) (k := 6) (l := 18) (n := 0) (by decide)).1), X.1, if_pos ((iI_le (by omega) (by omega)).mpr (Int.le_refl _))]
  | succ m ih =>
    intro i ρ h ks fuel hi K C X hks D
    have hil : i < L.length := by omega
    obtain ⟨w1, w2, w3, w4⟩ := X.2 i hil
    obtain ⟨c1, c2, c3, c4⟩ := hL _ (List.getElem_mem hil)
    have oa := c2.arg c1
    have h8 : L[i].2.1 = 8 → 0 ≤ L[i].2.2.1 ∧ L[i].2.2.1 ≤ 3 := fun q => by
      have h1 := c2.1 (by rw [q]; decide)
      rw [q] at h1
      exact ⟨by have := h1.1; unfold loF at this; simp at this; omega, by have := h1.2; unfold hiF at this; simp at this; omega⟩
    obtain ⟨ρ1, g1, st, ks1, s1, s2, K1, s4, s5, s6⟩ := newStep_is N hN K C (by omega) (kd := L[i].2.1) (a := L[i].2.2.1) (b := L[i].2.2.2) c1 oa h8 (Y := zC S.1 L[i].2.2.1.toNat) (fun _ => rfl)
    have D1 := D.keep s2 (fun z => by have : (9 : Nat) = 11 := z; omega) (fun z => by have : (19 : Nat) = 11 := z; omega)
    obtain ⟨ρ2, g2, i1, i2, i3, K2, m2⟩ := draft_insert N (by omega) K1 D1 (by omega) (Nat.le_refl _) s4
    have D2 : CH ρ2 19 g2 (Q 15) (i + 1) (txP L) (txX S.1 L).2.2 := i3.cg (fun j hj => by
      by_cases e : j = i
      · subst e
        rw [ins_at, ins_at, c4, txP_at hil]
        refine ⟨rfl, ?_⟩
        show zC S.1 (txP L j).2.1.toNat = _
        rw [txP_at hil]
      · rw [ins_lt (show j < i by omega), ins_lt (show j < i by omega)]
        exact ⟨rfl, rfl⟩)
    have X1 := X.keep K s2 (fun z => by have : (18 : Nat) = 11 := z; omega)
    have X2 := X1.keep K1 i2 (fun z => by have : (18 : Nat) = 19 := z; omega)
    have C1 := C.keep s2 (fun z => by have : (30 : Nat) = 11 := z; omega)
    have C2 := C1.keep i2 (fun z => by have : (30 : Nat) = 19 := z; omega)
    obtain ⟨ρ3, g3, ks3, d1, d2, d3, d4, d5, d6⟩ := ih (i + 1) ρ2 g2 ks1 fuel (by omega) K2 C2 X2 (by omega) D2
    have T1 : tr ρ h (fun q => q = 11 ∨ q = 19) ρ2 g2 := (s2.mono (fun q z => Or.inl z)).trans (i2.mono (fun q z => Or.inr z))
    refine ⟨ρ3, g3, ks3, ?_, T1.trans d2, d3, d4, by omega, by omega⟩
    have k3 : h_k h (Q 3) = 5 + 1 := (K.ko (i := 3) (k := 6) (l := 18) (n := 0) (by decide)).1
    have r28 := K.ko (i := 28) (k := 50) (l := 18) (n := 40) (by decide)
    have r29 := K.ko (i := 29) (k := 50) (l := 18) (n := 40) (by decide)
    have r30 := K.ko (i := 30) (k := 50) (l := 18) (n := 40) (by decide)
    rw [show m + 1 + (fuel + 1) = (m + (fuel + 1)) + 1 by omega]
    conv => lhs; unfold f_K_draftReadSteps_9
    unfold f_K_draftReadSteps_62 f_K_draftReadSteps_65
    rw [gR_k K.x.1, K.ref (i := 0) (k := 3) (j := 3) (by decide), gI_k k3, X.1, if_neg (fun z => absurd ((iI_le (by omega) (by omega)).mp z) (by omega)), if_neg (show ¬ (40 : Int32) ≤ iI (i : Int) from fun z => absurd ((iI_le (a := 40) (by omega) (by omega)).mp z) (by omega)), gR_k K.x.1, K.ref (i := 0) (k := 15) (j := 15) (by decide), gR_k K.x.1, K.ref (i := 0) (k := 3) (j := 3) (by decide), gR_k k3, K.ref (i := 3) (k := 0) (j := 28) (by decide), aI_iI (z := (i : Int)) ⟨r28.1, r28.2⟩ (by omega) (by omega) (by omega), Int.toNat_natCast, w2, gR_k K.x.1, K.ref (i := 0) (k := 3) (j := 3) (by decide), gR_k k3, K.ref (i := 3) (k := 1) (j := 29) (by decide), aI_iI (z := (i : Int)) ⟨r29.1, r29.2⟩ (by omega) (by omega) (by omega), Int.toNat_natCast, w3, gR_k K.x.1, K.ref (i := 0) (k := 3) (j := 3) (by decide), gR_k k3, K.ref (i := 3) (k := 2) (j := 30) (by decide), aI_iI (z := (i : Int)) ⟨r30.1, r30.2⟩ (by omega) (by omega) (by omega), Int.toNat_natCast, w4, cv_k K.x.1, s1, cl_s, cv_k D1.k, i1, cl_s, bn_i, show (1 : Int32) = iI 1 from rfl, iI_add, show (i : Int) + 1 = ((i + 1 : Nat) : Int) by omega]
    exact d1
theorem draftRead_is (N : Nat) (hN : 20000 ≤ N) (K : KW ρ h Q S (zC S.1) I T f ks) (C : CN ρ h) {L : List (Nat × Int × Int × Int)} {cost : Int} (h40 : L.length ≤ 40) (hL : ∀ c ∈ L, clOk cost c) (X : rdL h Q L) (hks : ks.length + 50 < N) : ∃ ρ' g ks', f_K_draftReadSteps N h (Q 0) = some ((), g) ∧ tr ρ h (fun q => q = 11 ∨ q = 19) ρ' g ∧ KW ρ' g Q S (zC S.1) I T f ks' ∧ CH ρ' 19 g (Q 15) (txX S.1 L).1 (txX S.1 L).2.1 (txX S.1 L).2.2 ∧ ks'.length ≤ ks.length + L.length ∧ hm g + kpt g Q ≤ hm h + kpt h Q + 284 * L.length := by
  obtain ⟨n0, p0, Y0, D0⟩ := K.2.1.2.2.2
  obtain ⟨g1, a1, a2, a3, a4, a5⟩ := chclear_is N D0 (txP L) (txX S.1 L).2.2
  obtain ⟨K1, m1⟩ := K.dw a2 ⟨_, _, _, a3⟩
  have m1' := m1 (by unfold rch; rw [a4, a5]; exact Nat.le_refl _)
  have X1 := X.keep K a2 (fun z => by have : (18 : Nat) = 19 := z; omega)
  have C1 := C.keep a2 (fun z => by have : (30 : Nat) = 19 := z; omega)
  obtain ⟨ρ2, g2, ks2, b1, b2, b3, b4, b5, b6⟩ := draft_loop N hN h40 hL L.length 0 ρ g1 ks (N - L.length - 1) (by omega) K1 C1 X1 (by omega) a3
  rw [show L.length + (N - L.length - 1 + 1) = N by omega] at b1
  refine ⟨ρ2, g2, ks2, ?_, (a2.mono (fun q z => Or.inr z)).trans b2, b3, b4, b5, by omega⟩
  unfold f_K_draftReadSteps
  rw [gR_k K.x.1, K.ref (i := 0) (k := 15) (j := 15) (by decide), cv_k D0.k, a1, cl_s]
  exact b1
end
