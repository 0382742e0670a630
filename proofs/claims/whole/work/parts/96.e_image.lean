section
variable {ρ ρ' : Nat → Nat} {h g : hS} {Q : Nat → Nat} {S S' : StT} {Zs Zs' : Nat → Nat → Int} {I I' : Option StT} {T T' : Nat × (Nat → Int)} {f f' : Int} {ks ks' : List Nat} {F : FT}
/-- the object's own fields are written: tape, fault, image -/
theorem KW.ow (K : KW ρ h Q S Zs I T f ks) (t : tr ρ h (rg 17) ρ' g) (hr : ∀ k, k ≠ 0 → k ≠ 17 → h_r g (Q 0) k = h_r h (Q 0) k) (hI : IM ρ' g (Q 0) I') (hT : TP ρ' g (Q 0) T') (hf : h_i g (Q 0) 2 = iI f') : KW ρ' g Q S Zs I' T' f' ks ∧ kpt g Q + pIm h (Q 0) + pTp h (Q 0) = kpt h Q + pIm g (Q 0) + pTp g (Q 0) := by
  have n : ∀ q, q ≠ 17 → ¬ rg 17 q := fun q hq z => hq z
  have hB := K.2.1.1.keep t (fun q hq => n q (by unfold RB at hq; omega))
  obtain ⟨nD, pD, YD, D⟩ := K.2.1.2.2.2
  have s13 := K.1.1.same t (e := (13, 63, 6, 4)) (by decide) (n _ (by decide))
  have s3 := K.1.1.same t (e := (3, 6, 18, 0)) (by decide) (n _ (by decide))
  simp only [] at s13 s3
  have RFg : RF refK g Q := fun e he => by
    have q := K.1.2.1 e he
    simp only [refK, List.mem_cons, List.not_mem_nil, or_false] at he
    rcases he with he | he | he | he | he | he | he | he | he | he | he | he | he | he | he | he | he | he | he | he | he <;> subst he
    all_goals first | (rw [hr _ (by decide) (by decide)]; exact q) | (rw [s13.2.2]; exact q) | (rw [s3.2.2]; exact q)
  refine ⟨⟨⟨K.1.1.keep t, RFg, K.1.2.2⟩, ⟨hB.1, K.2.1.2.1.keep t (n _ (by omega)) (n _ (by omega)), (K.2.1.2.2.1.keep t (n _ (by omega))).1, nD, pD, YD, D.keep t (n _ (by omega)) (n _ (by omega))⟩, fun d hd => (K.2.2.1 d hd).keep t (n _ (by omega)), K.2.2.2.1.keep t (n _ (by omega)) (fun q h1 h2 => n _ (by omega)), hI, hT, hf⟩, ?_⟩
  unfold kpt
  rw [hB.2, K.psh t (n _ (by omega)), K.pc t (fun c hc => n _ (by omega)), K.pn t (n _ (by omega)) (fun q h1 h2 => n _ (by omega)), K.pd t (n _ (by omega))]
  omega
/-- new cells are made, nothing else -/
theorem KW.nf (K : KW ρ h Q S Zs I T f ks) (t : ∀ R, tr ρ h R ρ' g) : KW ρ' g Q S Zs I T f ks ∧ kpt g Q = kpt h Q := by
  have tF := t (fun _ => False)
  have nF : ¬ False := fun z => z
  have hB := K.2.1.1.keep tF (fun q _ => nF)
  obtain ⟨nD, pD, YD, D⟩ := K.2.1.2.2.2
  refine ⟨K.put tF nF nF nF nF (fun q _ _ => nF) hB.1 (K.2.1.2.1.keep tF nF nF) (K.2.1.2.2.1.keep tF nF).1 ⟨nD, pD, YD, D.keep tF nF nF⟩ (fun d hd => (K.2.2.1 d hd).keep tF nF) (K.2.2.2.1.keep tF nF (fun q _ _ => nF)), ?_⟩
  unfold kpt
  rw [hB.2, K.psh tF nF, K.pc tF (fun c hc => nF), K.pn tF nF (fun q h1 h2 => nF), K.pd tF nF, K.pim tF nF nF (fun q h1 h2 => nF), K.ptp tF nF]
/-- the image takes over what is now -/
theorem image_18 (N : Nat) (hN : 100 ≤ N) (K : KW ρ h Q S Zs I T f ks) (v : vS S) {P : Nat → Nat} {S1 : StT} (hI : h_r h (Q 0) 17 = some (P 16)) (X : SX ρ h P 200 S1) : ∃ ρ' g, f_K_image_18 N h (Q 0) = some ((), g) ∧ tr ρ h RC ρ' g ∧ KW ρ' g Q S Zs (some S) T f ks ∧ hm g + kpt g Q ≤ hm h + kpt h Q := by
  obtain ⟨lab, Y⟩ := K.2.2.2.1.y
  obtain ⟨lob, Z⟩ := X.y
  obtain ⟨ρ1, g1, a1, a2, a3, a4⟩ := stake_is N hN (lt := 200) (lo := 100) (by omega) (by omega) (by omega) Z Y v.2.1 v.2.2.2.1
  have n : ∀ q, ¬ (200 ≤ q ∧ q < 250) → ¬ RT1 200 q := fun q hq z => hq z
  have hB := K.2.1.1.keep a2 (fun q hq => n q (by unfold RB at hq; omega))
  obtain ⟨nD, pD, YD, D⟩ := K.2.1.2.2.2
  have hx := K.x.2
  have s0 := K.1.1.same a2 (e := (0, 13, 17, 0)) (by decide) (n _ (by decide))
  simp only [] at s0
  refine ⟨ρ1, g1, ?_, a2.mono (fun q z => by unfold RT1 at z; unfold RC; omega), ⟨⟨K.1.1.keep a2, RF_K K.1.1 K.1.2.1 a2 (n _ (by omega)) (n _ (by omega)) (n _ (by omega)), K.1.2.2⟩, ⟨hB.1, K.2.1.2.1.keep a2 (n _ (by omega)) (n _ (by omega)), (K.2.1.2.2.1.keep a2 (n _ (by omega))).1, nD, pD, YD, D.keep a2 (n _ (by omega)) (n _ (by omega))⟩, fun d hd => (K.2.2.1 d hd).keep a2 (n _ (by omega)), K.2.2.2.1.keep a2 (n _ (by omega)) (fun q h1 h2 => n _ (by omega)), ⟨P, by rw [s0.2.2]; exact hI, a3.x, v⟩, K.2.2.2.2.2.1.keep a2 hx (n _ (by omega)), by rw [s0.1]; exact K.2.2.2.2.2.2⟩, ?_⟩
  · unfold f_K_image_18 f_K_image_29
    rw [gR_k K.x.1, hI, gR_k K.x.1, K.ref (i := 0) (k := 16) (j := 16) (by decide), cv_k Z.f16.1, a1, cl_s]
  · have e1 : pIm g1 (Q 0) = pSt g1 (P 16) := by unfold pIm; rw [s0.2.2, hI]
    have e2 : pIm h (Q 0) = pSt h (P 16) := by unfold pIm; rw [hI]
    unfold kpt
    rw [hB.2, K.psh a2 (n _ (by omega)), K.pc a2 (fun c hc => n _ (by omega)), K.pn a2 (n _ (by omega)) (fun q h1 h2 => n _ (by omega)), K.pd a2 (n _ (by omega)), K.ptp a2 (n _ (by omega)), e1, e2]
    omega
theorem image_K (N : Nat) (hN : 20000 ≤ N) (K : KS ρ h Q F ks) : KA ρ h Q ks () (F.1, some F.1, F.2.2) 0 (f_K_image N h (Q 0)) := by
  have K0 := K.w
  have v := K.2.2.2.1.2
  have im := K.2.2.2.2.1
  by_cases h0 : ∃ S1, F.2.1 = some S1
  · obtain ⟨S1, h0⟩ := h0
    rw [h0] at im
    obtain ⟨P, p1, p2, p3⟩ := im
    obtain ⟨ρ1, g1, a1, a2, a3, a4⟩ := image_18 N (by omega) K0 v p1 p2
    refine ⟨ρ1, g1, ks, ?_, KW.s (F := (F.1, some F.1, F.2.2)) a3 (fun _ _ => rfl) v, a2, by omega, by omega⟩
    unfold f_K_image
    rw [gR_k K.x.1, p1, if_neg (by simp)]
    exact a1
  · have hn : F.2.1 = none := by
      cases e : F.2.1 with
      | none => rfl
      | some S1 => exact absurd ⟨S1, e⟩ h0
    rw [hn] at im
    have e17 : h_r h (Q 0) 17 = none := im
    obtain ⟨ρ1, g1, b1, b2, b3, b4, b5⟩ := stnew_is N (by omega) ρ h (ls := 200) (by omega)
    obtain ⟨K1, m1⟩ := K0.nf b2
    have x1 := K1.x
    have t2 : tr ρ1 g1 (rg 17) ρ1 (s_r g1 (Q 0) 17 (some (h_x h))) := tr_sr x1.2.1
    have ne : ∀ i k l n, (i, k, l, n) ∈ fixS 200 → pS (h_x h) i ≠ Q 0 := fun i k l n hi e => by
      have := (b3.fx hi).2.1
      rw [e, x1.2.1] at this
      have := fixS_lab 200 _ hi
      simp only [] at this
      omega
    have Z2 : SX ρ1 (s_r g1 (Q 0) 17 (some (h_x h))) (pS (h_x h)) 200 S00 := b3.x.keep t2 (fun z => by have : (9 : Nat) = 17 := z; omega) (fun q h1 h2 z => by have : q = 17 := z; omega)
    have r17 : h_r (s_r g1 (Q 0) 17 (some (h_x h))) (Q 0) 17 = some (pS (h_x h) 16) := by rw [h_r_sr, if_pos rfl]; unfold va_up; rw [if_pos rfl]; rfl
    obtain ⟨q1, tp, q2, q3, q4, q5, q6, q7, q8⟩ := K1.2.2.2.2.2.1
    have TP2 : TP ρ1 (s_r g1 (Q 0) 17 (some (h_x h))) (Q 0) F.2.2.1 := ⟨q1, tp, by rw [h_r_sr, if_pos rfl]; unfold va_up; rw [if_neg (by decide)]; exact q2, q3, q4, q5, q6, q7, q8⟩
    obtain ⟨K2, m2⟩ := K1.ow t2 (I' := some S00) (T' := F.2.2.1) (f' := F.2.2.2) (fun k k0 k17 => by rw [h_r_sr, if_pos rfl]; unfold va_up; rw [if_neg k17]) ⟨_, r17, Z2, vS_0⟩ TP2 K1.2.2.2.2.2.2
    obtain ⟨ρ3, g3, c1, c2, c3, c4⟩ := image_18 N (by omega) K2 v r17 Z2
    have n17 : h_r g1 (Q 0) 17 = none := by
      have := K0.x
      rw [((b2 (fun _ => False)).2 (Q 0) this.2.2 |>.2.2.2 (fun z => z)).2.2]; exact e17
    have p1 : pIm g1 (Q 0) = 3766 := by unfold pIm; rw [n17]
    have p2 : pIm (s_r g1 (Q 0) 17 (some (h_x h))) (Q 0) = 3452 := by
      unfold pIm
      rw [r17]
      show pSt (s_r g1 (Q 0) 17 (some (h_x h))) (pS (h_x h) 16) = 3452
      have tt : tr ρ1 g1 (rg 17) ρ1 (s_r g1 (Q 0) 17 (some (h_x h))) := t2
      rw [b3.pk tt (fun z => by have : (9 : Nat) = 17 := z; omega) (fun q h1 h2 z => by have : q = 17 := z; omega)]
      exact b5
    have p3 : pTp (s_r g1 (Q 0) 17 (some (h_x h))) (Q 0) = pTp g1 (Q 0) := by
      unfold pTp
      rw [show h_r (s_r g1 (Q 0) 17 (some (h_x h))) (Q 0) 0 = h_r g1 (Q 0) 0 by rw [h_r_sr, if_pos rfl]; unfold va_up; rw [if_neg (by decide)]]
      rfl
    have m3 : hm (s_r g1 (Q 0) 17 (some (h_x h))) = hm g1 := rfl
    refine ⟨ρ3, g3, ks, ?_, KW.s (F := (F.1, some F.1, F.2.2)) c3 (fun _ _ => rfl) v, ((b2 RC).trans (t2.mono (fun q z => by have : q = 17 := z; unfold RC; omega))).trans c2, by omega, by omega⟩
    unfold f_K_image f_K_image_11 f_K_image_15
    rw [gR_k K.x.1, e17, if_pos rfl]
    unfold nwO
    simp only [nn]
    rw [b1, cl_s, pR_k x1.1]
    exact c1
end
