/-! ACTS OF THE CLASS: undo, note, forget, restore -/
/-- a value is noted -/
def noteS (S : StT) (x : Int) (v : Int64) : StT := (S.1, S.2.1, S.2.2.1, S.2.2.2.1 + 1, (fun j => if j = S.2.2.2.1 then x else S.2.2.2.2.1 j), (fun j => if j = S.2.2.2.1 then v else S.2.2.2.2.2.1 j), S.2.2.2.2.2.2)
/-- all that is noted is forgotten -/
def forS (S : StT) : StT := (S.1, S.2.1, S.2.2.1, 0, S.2.2.2.2)
theorem vS_back {S : StT} (v : vS S) (h0 : S.2.1 ≠ 0) : vS (backS S) := by
  refine ⟨fun d hd => ?_, by have := v.2.1; show S.2.1 - 1 ≤ 40; omega, fun k hk => ?_, v.2.2.2⟩
  · show vC (upC S.1 (S.2.2.1 (S.2.1 - 1)).1 (S.2.2.1 (S.2.1 - 1)).2 d)
    unfold upC
    by_cases e : d = (S.2.2.1 (S.2.1 - 1)).1
    · rw [if_pos e]; exact (v.2.2.1 (S.2.1 - 1) (by omega)).2
    · rw [if_neg e]; exact v.1 d hd
  · have hk' : k < S.2.1 - 1 := hk
    exact v.2.2.1 k (by omega)
section
variable {ρ ρ' : Nat → Nat} {h g : hS} {Q : Nat → Nat} {S S' : StT} {Zs Zs' : Nat → Nat → Int} {I I' : Option StT} {T T' : Nat × (Nat → Int)} {f f' : Int} {ks ks' : List Nat} {F : FT}
/-- a cost's curve is made from its steps -/
theorem makeCurve_is (N : Nat) (hN : 20000 ≤ N) (K : KW ρ h Q S Zs I T f ks) {c : Nat} (hc : c < 4) (v : vC (S.1 c)) : ∃ ρ' g, f_K_makeCurve N h (Q 0) (iI c) = some ((), g) ∧ tr ρ h RC ρ' g ∧ KW ρ' g Q S (fun d => if d = c then zC S.1 c else Zs d) I T f ks ∧ hm g + kpt g Q ≤ hm h + kpt h Q := by
  have Cc := K.ch hc
  obtain ⟨ρ1, g1, w, b1, b2, b3, b4, b5⟩ := build_is N hN (show ¬ RW (101 + c) from fun z => by unfold RW at z; omega) Cc K.2.1.1
  obtain ⟨e1, B1⟩ := b4 v.2.2
  have tB := b2.mono RW_B
  obtain ⟨K1, m1⟩ := K.bw tB B1.x
  have h4 := K.ko (i := 4) (k := 2) (l := 1) (n := 0) (by decide)
  have h4' := K1.ko (i := 4) (k := 2) (l := 1) (n := 0) (by decide)
  obtain ⟨w1, hw⟩ : ∃ w, h_r g1 (Q 4) 0 = some w := by obtain ⟨w, s, lw, ls, BO, _⟩ := B1; exact ⟨w, BO.2.1.1⟩
  obtain ⟨ρ2, g2, a1, a2, a3, a4⟩ := curve_take N K1 hc B1 hw
  have := m1 b3
  refine ⟨ρ2, g2, ?_, (tB.mono RB_C).trans (a2.mono (fun q z => by have : q = 20 + c := z; unfold RC; omega)), a3, by omega⟩
  unfold f_K_makeCurve f_K_makeCurve_9 f_K_makeCurve_12 f_K_makeCurve_18 f_K_makeCurve_28
  rw [gR_k K.x.1, K.ref (i := 0) (k := 4) (j := 4) (by decide), chain_w N K hc, cv_k (show h_k h (Q 4) = 1 + 1 from h4.1), b1, cl_s, curve_w N K1 hc, gR_k K1.x.1, K1.ref (i := 0) (k := 4) (j := 4) (by decide), gR_k (show h_k g1 (Q 4) = 1 + 1 from h4'.1), hw, cv_k (K1.2.2.1 c hc).1.k, a1, cl_s]
theorem undo_K (N : Nat) (hN : 20000 ≤ N) (K : KS ρ h Q F ks) : (F.1.2.1 = 0 → KA ρ h Q ks (-1 : Int32) F 0 (f_K_undo N h (Q 0))) ∧ (F.1.2.1 ≠ 0 → KA ρ h Q ks (iI ((F.1.2.1 - 1 : Nat) : Int)) (backS F.1, F.2) 0 (f_K_undo N h (Q 0))) := by
  have K0 := K.w
  have v := K.2.2.2.1.2
  obtain ⟨lab, Y⟩ := K0.2.2.2.1.y
  constructor
  · intro h0
    refine ⟨ρ, h, ks, ?_, K, tr.rf, by omega, by omega⟩
    unfold f_K_undo f_K_undo_7
    rw [gR_k K.x.1, K.ref (i := 0) (k := 16) (j := 16) (by decide), cv_k Y.f16.1, back_n N Y h0, cl_s, if_pos rfl]
  · intro h0
    have va := v.2.2.1 (F.1.2.1 - 1) (by omega)
    obtain ⟨ρ1, g1, a1, a2, a3, a4⟩ := back_y N (by omega) Y (by omega) h0 v.2.1 va.1
    obtain ⟨K1, m1⟩ := K0.sw a2 a3.x
    have hb : vC ((backS F.1).1 (F.1.2.2.1 (F.1.2.1 - 1)).1) := by
      show vC (upC F.1.1 (F.1.2.2.1 (F.1.2.1 - 1)).1 (F.1.2.2.1 (F.1.2.1 - 1)).2 (F.1.2.2.1 (F.1.2.1 - 1)).1)
      unfold upC; rw [if_pos rfl]; exact va.2
    obtain ⟨ρ2, g2, b1, b2, b3, b4⟩ := makeCurve_is N hN K1 va.1 hb
    have m1' := m1 a4
    obtain ⟨lab2, Y2⟩ := b3.2.2.2.1.y
    refine ⟨ρ2, g2, ks, ?_, KW.s (F := (backS F.1, F.2)) b3 (fun d hd => ?_) (vS_back v h0), ((show tr ρ h (RT1 100) ρ1 g1 from a2).mono T100_C).trans b2, by omega, by omega⟩
    · unfold f_K_undo f_K_undo_7 f_K_undo_20
      rw [gR_k K.x.1, K.ref (i := 0) (k := 16) (j := 16) (by decide), cv_k Y.f16.1, a1, cl_s, if_neg (show ¬ iI ((F.1.2.2.1 (F.1.2.1 - 1)).1 : Int) = (-1 : Int32) from fun z => by have := va.1; have := (iI_eq (b := -1) (by omega) (by omega)).mp z; omega), cv_k K1.x.1, b1, cl_s, gR_k b3.x.1, b3.ref (i := 0) (k := 16) (j := 16) (by decide), gI_k Y2.f16.1, Y2.2.1.1]
      rfl
    · show (if d = (F.1.2.2.1 (F.1.2.1 - 1)).1 then zC (backS F.1).1 (F.1.2.2.1 (F.1.2.1 - 1)).1 else zC F.1.1 d) = zC (backS F.1).1 d
      by_cases e : d = (F.1.2.2.1 (F.1.2.1 - 1)).1
      · rw [if_pos e, e]
      · rw [if_neg e]
        have : (backS F.1).1 d = F.1.1 d := by show upC F.1.1 _ _ d = _; unfold upC; rw [if_neg e]
        unfold zC
        rw [this]
theorem note_K (N : Nat) (K : KS ρ h Q F ks) {x : Int} (hx : i32 x) (w : Int64) : ((F.1.2.2.2.1 < 8 ∧ (-100000 ≤ x ∧ x ≤ 100000)) → KA ρ h Q ks (iI ((F.1.2.2.2.1 + 1 : Nat) : Int)) (noteS F.1 x w, F.2) 0 (f_K_note N h (Q 0) (iI x) w)) ∧ (¬ (F.1.2.2.2.1 < 8 ∧ (-100000 ≤ x ∧ x ≤ 100000)) → KA ρ h Q ks (-1 : Int32) (rfS F.1 2, F.2) 0 (f_K_note N h (Q 0) (iI x) w)) := by
  have K0 := K.w
  have v := K.2.2.2.1.2
  have v8 := v.2.2.2.1
  obtain ⟨lab, Y⟩ := K0.2.2.2.1.y
  obtain ⟨r1, r2, r3⟩ := K0.rf (k := 2) (by omega)
  have e19 : f_K_note_19 N h (Q 0) = some (-1, s_i h (Q 37) 2 (F.1.2.2.2.2.2.2 2 + 1)) := by
    unfold f_K_note_19
    rw [gR_k K.x.1, K.ref (i := 0) (k := 16) (j := 16) (by decide), gR_k Y.f16.1, Y.ref (i := 16) (k := 7) (j := 37) (by decide), show (2 : Int32) = iI 2 from rfl, aI_iI (z := 2) ⟨Y.f37.1, Y.f37.2.2.1⟩ (by omega) (by omega) (by omega), uI_iI (z := 2) ⟨Y.f37.1, Y.f37.2.2.1⟩ (by omega) (by omega) (by omega), show (2 : Int).toNat = 2 from rfl, Y.2.2.2.2.2.2 2 (by omega)]
  have no : f_K_note N h (Q 0) (iI x) w = f_K_note_19 N h (Q 0) → KA ρ h Q ks (-1 : Int32) (rfS F.1 2, F.2) 0 (f_K_note N h (Q 0) (iI x) w) := fun e => by
    rw [e, e19]
    exact ⟨ρ, _, ks, rfl, KW.s (F := (rfS F.1 2, F.2)) r1 (fun _ _ => rfl) (vS_rf v), r2, by omega, by omega⟩
  by_cases h1 : F.1.2.2.2.1 < 8
  · by_cases h2 : -100000 ≤ x ∧ x ≤ 100000
    · refine ⟨fun _ => ?_, fun q => absurd ⟨h1, h2⟩ q⟩
      have Y1 := Y.wx (by omega) F.1.2.2.2.1 (iI x)
      have Y2 := Y1.wj (by omega) F.1.2.2.2.1 w
      have n56 : Q 35 ≠ Q 36 := fun e => by have q1 := Y.f35.1; rw [e, Y.f36.1] at q1; exact absurd q1 (by decide)
      have Y3 := Y2.wnn (by omega) (nn := F.1.2.2.2.1 + 1) (NX := fun j => if j = F.1.2.2.2.1 then x else F.1.2.2.2.2.1 j) (NV := fun j => if j = F.1.2.2.2.1 then w else F.1.2.2.2.2.2.1 j) (fun k hk => by
        rw [h_i_sj, h_i_si, if_pos rfl, h_j_sj, if_pos rfl]
        unfold upd vp_updL
        by_cases e : k = F.1.2.2.2.1
        · rw [if_pos e, if_pos e, if_pos e, if_pos e]; exact ⟨rfl, rfl⟩
        · rw [if_neg e, if_neg e, if_neg e, if_neg e]; exact Y.2.2.2.2.2.1 k (by omega))
      have t : tr ρ h (RT1 100) ρ (s_i (s_j (s_i h (Q 35) F.1.2.2.2.1 (iI x)) (Q 36) F.1.2.2.2.1 w) (Q 16) 6 (iI ((F.1.2.2.2.1 + 1 : Nat) : Int))) := ((tr_lt (tr_si Y.f35.2.1)).trans (tr_lt (tr_sj Y.f36.2.1))).trans (tr_lt (tr_si Y.f16.2.1))
      obtain ⟨K1, m1⟩ := K0.sw t (S' := noteS F.1 x w) Y3.x
      refine ⟨ρ, _, ks, ?_, KW.s (F := (noteS F.1 x w, F.2)) K1 (fun _ _ => rfl) ?_, t.mono T100_C, by omega, by have := m1 (Nat.le_refl _); omega⟩
      · unfold f_K_note
        rw [gR_k K.x.1, K.ref (i := 0) (k := 16) (j := 16) (by decide), gI_k Y.f16.1, Y.2.1.2, if_neg (show ¬ (8 : Int32) ≤ iI (F.1.2.2.2.1 : Int) from fun z => absurd ((iI_le (a := 8) (by omega) (by omega)).mp z) (by omega)), kx_y N h h2, cl_s, if_neg (by decide), gR_k K.x.1, K.ref (i := 0) (k := 16) (j := 16) (by decide), gR_k Y.f16.1, Y.ref (i := 16) (k := 4) (j := 35) (by decide), gR_k K.x.1, K.ref (i := 0) (k := 16) (j := 16) (by decide), gI_k Y.f16.1, Y.2.1.2, uI_iI (z := (F.1.2.2.2.1 : Int)) ⟨Y.f35.1, Y.f35.2.2.1⟩ (by omega) (by omega) (by omega), Int.toNat_natCast]
        have x1 : h_k (s_i h (Q 35) F.1.2.2.2.1 (iI x)) (Q 0) = 12 + 1 := K.x.1
        have x2 : h_r (s_i h (Q 35) F.1.2.2.2.1 (iI x)) (Q 0) 16 = some (Q 16) := K.ref (i := 0) (k := 16) (j := 16) (by decide)
        have x3 : h_k (s_j (s_i h (Q 35) F.1.2.2.2.1 (iI x)) (Q 36) F.1.2.2.2.1 w) (Q 0) = 12 + 1 := K.x.1
        have x4 : h_r (s_j (s_i h (Q 35) F.1.2.2.2.1 (iI x)) (Q 36) F.1.2.2.2.1 w) (Q 0) 16 = some (Q 16) := K.ref (i := 0) (k := 16) (j := 16) (by decide)
        rw [gR_k x1, x2, gR_k Y1.f16.1, Y1.ref (i := 16) (k := 5) (j := 36) (by decide), gR_k x1, x2, gI_k Y1.f16.1, Y1.2.1.2, uJ_i ⟨Y1.f36.1, Y1.f36.2.2.1⟩ h1 (by omega), gR_k x3, x4, gI_k Y2.f16.1, Y2.2.1.2, pI_k Y2.f16.1]
        have e1 : iI (F.1.2.2.2.1 : Int) + (1 : Int32) = iI ((F.1.2.2.2.1 + 1 : Nat) : Int) := by rw [show (1 : Int32) = iI 1 from rfl, iI_add]; rfl
        show gR (s_i (s_j (s_i h (Q 35) F.1.2.2.2.1 (iI x)) (Q 36) F.1.2.2.2.1 w) (Q 16) 6 (iI (F.1.2.2.2.1 : Int) + 1)) (some (Q 0)) 12 16 _ = _
        rw [e1, gR_k K1.x.1, K1.ref (i := 0) (k := 16) (j := 16) (by decide), gI_k Y3.f16.1, Y3.2.1.2]
      · refine ⟨v.1, v.2.1, v.2.2.1, by show F.1.2.2.2.1 + 1 ≤ 8; omega, fun k hk => ?_⟩
        have hk' : k < F.1.2.2.2.1 + 1 := hk
        show -100000 ≤ (if k = F.1.2.2.2.1 then x else F.1.2.2.2.2.1 k) ∧ (if k = F.1.2.2.2.1 then x else F.1.2.2.2.2.1 k) ≤ 100000
        by_cases e : k = F.1.2.2.2.1
        · rw [if_pos e]; exact h2
        · rw [if_neg e]; exact v.2.2.2.2 k (by omega)
    · refine ⟨fun q => absurd q.2 h2, fun _ => no ?_⟩
      unfold f_K_note
      rw [gR_k K.x.1, K.ref (i := 0) (k := 16) (j := 16) (by decide), gI_k Y.f16.1, Y.2.1.2, if_neg (show ¬ (8 : Int32) ≤ iI (F.1.2.2.2.1 : Int) from fun z => absurd ((iI_le (a := 8) (by omega) (by omega)).mp z) (by omega)), kx_n N h hx h2, cl_s, if_pos rfl]
  · refine ⟨fun q => absurd q.1 h1, fun _ => no ?_⟩
    unfold f_K_note
    rw [gR_k K.x.1, K.ref (i := 0) (k := 16) (j := 16) (by decide), gI_k Y.f16.1, Y.2.1.2, if_pos (show (8 : Int32) ≤ iI (F.1.2.2.2.1 : Int) from (iI_le (a := 8) (by omega) (by omega)).mpr (by omega))]
theorem forget_K (N : Nat) (K : KS ρ h Q F ks) : KA ρ h Q ks () (forS F.1, F.2) 0 (f_K_forget N h (Q 0)) := by
  have K0 := K.w
  have v := K.2.2.2.1.2
  obtain ⟨lab, Y⟩ := K0.2.2.2.1.y
  have Y3 := Y.wnn (by omega) (nn := 0) (NX := F.1.2.2.2.2.1) (NV := F.1.2.2.2.2.2.1) (fun k hk => by omega)
  have t : tr ρ h (RT1 100) ρ (s_i h (Q 16) 6 (iI ((0 : Nat) : Int))) := tr_lt (tr_si Y.f16.2.1)
  obtain ⟨K1, m1⟩ := K0.sw t (S' := forS F.1) Y3.x
  refine ⟨ρ, _, ks, ?_, KW.s (F := (forS F.1, F.2)) K1 (fun _ _ => rfl) ⟨v.1, v.2.1, v.2.2.1, Nat.zero_le _, fun k hk => absurd hk (Nat.not_lt_zero _)⟩, t.mono T100_C, by omega, by have := m1 (Nat.le_refl _); omega⟩
  unfold f_K_forget
  rw [gR_k K.x.1, K.ref (i := 0) (k := 16) (j := 16) (by decide), pI_k Y.f16.1]
  rfl
theorem restore_loop (N : Nat) (hN : 20000 ≤ N) (v : ∀ c, c < 4 → vC (S.1 c)) : ∀ (m i : Nat) (ρ : Nat → Nat) (h : hS) (Zs : Nat → Nat → Int) (fuel : Nat), i + m = 4 → KW ρ h Q S Zs I T f ks → (∀ c, c < i → Zs c = zC S.1 c) → ∃ ρ' g Zs', f_K_restore_22 N (m + (fuel + 1)) h (Q 0) (iI i) = some (1, g) ∧ tr ρ h RC ρ' g ∧ KW ρ' g Q S Zs' I T f ks ∧ (∀ c, c < 4 → Zs' c = zC S.1 c) ∧ hm g + kpt g Q ≤ hm h + kpt h Q := by
  intro m
  induction m with
  | zero =>
    intro i ρ h Zs fuel hi K hz
    have e : i = 4 := by omega
    subst e
    refine ⟨ρ, h, Zs, ?_, tr.rf, K, hz, Nat.le_refl _⟩
    rw [Nat.zero_add]
    unfold f_K_restore_22
    rw [if_pos (show (4 : Int32) ≤ iI ((4 : Nat) : Int) by decide), bz_1]
  | succ m ih =>
    intro i ρ h Zs fuel hi K hz
    obtain ⟨ρ1, g1, a1, a2, a3, a4⟩ := makeCurve_is N hN K (c := i) (by omega) (v i (by omega))
    obtain ⟨ρ2, g2, Zs', b1, b2, b3, b4, b5⟩ := ih (i + 1) ρ1 g1 _ fuel (by omega) a3 (fun c hc => by
      by_cases e : c = i
      · rw [if_pos e, e]
      · rw [if_neg e]; exact hz c (by omega))
    refine ⟨ρ2, g2, Zs', ?_, a2.trans b2, b3, b4, by omega⟩
    rw [show m + 1 + (fuel + 1) = (m + (fuel + 1)) + 1 by omega]
    unfold f_K_restore_22 f_K_restore_32
    rw [if_neg (show ¬ (4 : Int32) ≤ iI (i : Int) from fun z => absurd ((iI_le (a := 4) (by omega) (by omega)).mp z) (by omega)), cv_k K.x.1, a1, cl_s, bn_i, show (1 : Int32) = iI 1 from rfl, iI_add, show (i : Int) + 1 = ((i + 1 : Nat) : Int) by omega]
    exact b1
theorem restore_n (N : Nat) (K : KS ρ h Q F ks) (h0 : F.2.1 = none) : KA ρ h Q ks (0 : Int32) F 0 (f_K_restore N h (Q 0)) := by
  refine ⟨ρ, h, ks, ?_, K, tr.rf, by omega, by omega⟩
  have := K.2.2.2.2.1
  rw [h0] at this
  have e : h_r h (Q 0) 17 = none := this
  unfold f_K_restore
  rw [gR_k K.x.1, e, if_pos rfl, bz_0]
theorem restore_y (N : Nat) (hN : 20000 ≤ N) (K : KS ρ h Q F ks) {S : StT} (h0 : F.2.1 = some S) : KA ρ h Q ks (1 : Int32) (S, F.2) 0 (f_K_restore N h (Q 0)) := by
  have K0 := K.w
  obtain ⟨lab, Y⟩ := K0.2.2.2.1.y
  have im := K.2.2.2.2.1
  rw [h0] at im
  obtain ⟨P, p1, p2, p3⟩ := im
  obtain ⟨lob, Z⟩ := p2.y
  obtain ⟨ρ1, g1, a1, a2, a3, a4⟩ := stake_is N (by omega) (by omega) (by omega) (by omega) Y Z p3.2.1 p3.2.2.2.1
  obtain ⟨K1, m1⟩ := K0.sw a2 a3.x
  have m1' := m1 a4
  obtain ⟨fuel, hfu⟩ : ∃ fuel, N = 4 + (fuel + 1) := ⟨N - 5, by omega⟩
  obtain ⟨ρ2, g2, Zs', b1, b2, b3, b4, b5⟩ := restore_loop N hN p3.1 4 0 ρ1 g1 _ fuel (by omega) K1 (fun c hc => absurd hc (Nat.not_lt_zero _))
  rw [← hfu] at b1
  refine ⟨ρ2, g2, ks, ?_, KW.s (F := (S, F.2)) b3 b4 p3, (a2.mono T100_C).trans b2, by omega, by omega⟩
  unfold f_K_restore f_K_restore_20
  rw [gR_k K.x.1, p1, if_neg (by simp), gR_k K.x.1, K.ref (i := 0) (k := 16) (j := 16) (by decide), gR_k K.x.1, p1, cv_k Y.f16.1, a1, cl_s]
  exact b1
end
