section
variable {ρ : Nat → Nat} {h : hS} {Q : Nat → Nat} {F : FT} {ks : List Nat}
theorem KS.inv (K : KS ρ h Q F ks) {c : Int} (hc : 0 ≤ c ∧ c ≤ 3) : ∀ i, i ≤ (F.1.1 c.toNat).1 → zInv (zT (F.1.1 c.toNat).2.1 (F.1.1 c.toNat).2.2 (-1) i) := zT_inv (K.ch hc).arg (K.v hc).2.2
theorem klay (N : Nat) (hN : 20000 ≤ N) (K : KS ρ h Q F ks) {c : Int} (hc : 0 ≤ c ∧ c ≤ 3) : ∃ ρ' g, f_Trail_lay N h (Q 6) (some (Q (40 + c.toNat))) (some (Q 4)) = some ((), g) ∧ KS ρ' g Q F ks ∧ tr ρ h RA ρ' g ∧ hm g + brs g (Q 4) ≤ hm h + brs h (Q 4) ∧ h_r g (Q 6) 0 = some (Q (40 + c.toNat)) ∧ laidT g (Q 26) (Q 27) (F.1.1 c.toNat).2.1 (F.1.1 c.toNat).2.2 (F.1.1 c.toNat).1 := by
  obtain ⟨ρ', g, a1, a2, a3, a4, a5, a6, a7, a8⟩ := lay_is N hN (l := 101 + c.toNat) (fun q => by unfold RT RW at q; omega) (K.v hc).2.2 (K.ch hc) K.2.1.1 K.2.1.2.2.1
  have T : tr ρ h RA ρ' g := a2.mono (fun q hq => by unfold RT at hq; unfold RA; rcases hq with z | z; exact Or.inr (Or.inr (by omega)); exact Or.inl (RW_B q z))
  exact ⟨ρ', g, a1, K.ask T a4 a5, T, a3, a6, a7⟩
theorem path_K (N : Nat) (hN : 20000 ≤ N) (K : KS ρ h Q F ks) {c x i : Int} (hc : i32 c) (hx : i32 x) (hi : i32 i) : KE ρ h Q F ks (if ((0 ≤ c ∧ c ≤ 3) ∧ (0 ≤ i ∧ i ≤ (F.1.1 c.toNat).1)) ∧ (-100000 ≤ x ∧ x ≤ 100000) then iI (zPath F.1.1 c.toNat x i.toNat) else 0) (if (0 ≤ c ∧ c ≤ 3) ∧ (0 ≤ i ∧ i ≤ (F.1.1 c.toNat).1) then (if -100000 ≤ x ∧ x ≤ 100000 then 0 else 2) else 1) (f_K_path N h (Q 0) (iI c) (iI x) (iI i)) := by
  unfold i32 at hi
  unfold f_K_path f_K_path_5 f_K_path_24 f_K_path_25 f_K_path_28
  by_cases h1 : 0 ≤ c ∧ c ≤ 3
  · have C := K.ch h1
    have hs := C.sz
    rw [cvT_k K.x.1, chain_y N K h1, clT_l]
    by_cases i0 : i < 0
    · rw [if_pos (show iI i < (0 : Int32) from (iI_lt (b := 0) hi (by omega)).mpr i0), such_0, clT_r, if_neg (fun q => by omega), if_neg (fun q => by omega)]
      exact KE.t1 K rfl
    · rw [if_neg (show ¬ iI i < (0 : Int32) from fun z => i0 ((iI_lt (b := 0) hi (by omega)).mp z)), gI_k C.k, hs.1]
      by_cases i1 : (F.1.1 c.toNat).1 < i
      · rw [if_pos ((iI_lt (by omega) hi).mpr i1), such_0, clT_r, if_neg (fun q => by omega), if_neg (fun q => by omega)]
        exact KE.t1 K rfl
      · rw [if_neg (fun z => i1 ((iI_lt (by omega) hi).mp z)), such_1, clT_l]
        have hii : 0 ≤ i ∧ i ≤ (F.1.1 c.toNat).1 := by omega
        by_cases h2 : -100000 ≤ x ∧ x ≤ 100000
        · rw [nx_y N h h2, clT_l, if_pos ⟨⟨h1, hii⟩, h2⟩, if_pos ⟨h1, hii⟩, if_pos h2]
          unfold f_K_path_32 f_K_path_45
          obtain ⟨ρ', g, a1, a2, a3, a4, a5, a6⟩ := klay N hN K h1
          have hb := behind_is N (by omega) (a2.inv h1) (a2.ch h1) a2.2.1.2.2.1 a5 a6 h2 (many := i.toNat) (by omega)
          rw [show (i.toNat : Int) = i by omega] at hb
          have h6 := K.ko (i := 6) (k := 11) (l := 12) (n := 0) (by decide)
          have h6' := a2.ko (i := 6) (k := 11) (l := 12) (n := 0) (by decide)
          refine ⟨ρ', g, ?_, a2, a3, by omega, fun z => absurd rfl z⟩
          rw [gR_k K.x.1, K.ref (i := 0) (k := 6) (j := 6) (by decide), gR_k K.x.1, K.ref (i := 0) (k := 4) (j := 4) (by decide), cv_k (show h_k h (Q 6) = 10 + 1 from h6.1), a1, cl_s, gR_k a2.x.1, a2.ref (i := 0) (k := 6) (j := 6) (by decide), cv_k (show h_k g (Q 6) = 10 + 1 from h6'.1), hb, cl_s]
          rfl
        · rw [nx_n N h hx h2, clT_r, if_neg (fun q => h2 q.2), if_pos ⟨h1, hii⟩, if_neg h2]
          exact KE.t2 K rfl
  · rw [cvT_k K.x.1, chain_n N h _ hc h1, clT_r, if_neg (fun q => h1 q.1.1), if_neg (fun q => h1 q.1)]
    exact KE.t1 K rfl
theorem stretch_K (N : Nat) (hN : 20000 ≤ N) (K : KS ρ h Q F ks) {c x : Int} (hc : i32 c) (hx : i32 x) : KE ρ h Q F ks (if (0 ≤ c ∧ c ≤ 3) ∧ (-100000 ≤ x ∧ x ≤ 100000) then iI (zWay F.1.1 c.toNat x (F.1.1 c.toNat).1 0) else 0) (if 0 ≤ c ∧ c ≤ 3 then (if -100000 ≤ x ∧ x ≤ 100000 then 0 else 2) else 1) (f_K_stretch N h (Q 0) (iI c) (iI x)) := by
  unfold f_K_stretch f_K_stretch_5
  by_cases h1 : 0 ≤ c ∧ c ≤ 3
  · rw [cvT_k K.x.1, chain_y N K h1, clT_l]
    by_cases h2 : -100000 ≤ x ∧ x ≤ 100000
    · rw [nx_y N h h2, clT_l, if_pos ⟨h1, h2⟩, if_pos h1, if_pos h2]
      unfold f_K_stretch_10 f_K_stretch_22
      obtain ⟨ρ', g, a1, a2, a3, a4, a5, a6⟩ := klay N hN K h1
      have hb := way_is N (by omega) (a2.inv h1) (a2.ch h1) a2.2.1.2.2.1 a5 a6 h2
      have h6 := K.ko (i := 6) (k := 11) (l := 12) (n := 0) (by decide)
      have h6' := a2.ko (i := 6) (k := 11) (l := 12) (n := 0) (by decide)
      refine ⟨ρ', g, ?_, a2, a3, by omega, fun z => absurd rfl z⟩
      rw [gR_k K.x.1, K.ref (i := 0) (k := 6) (j := 6) (by decide), gR_k K.x.1, K.ref (i := 0) (k := 4) (j := 4) (by decide), cv_k (show h_k h (Q 6) = 10 + 1 from h6.1), a1, cl_s, gR_k a2.x.1, a2.ref (i := 0) (k := 6) (j := 6) (by decide), cv_k (show h_k g (Q 6) = 10 + 1 from h6'.1), hb, cl_s, zWay_d F.1.1 c.toNat x (F.1.1 c.toNat).1 0 (by omega)]
      rfl
    · rw [nx_n N h hx h2, clT_r, if_neg (fun q => h2 q.2), if_pos h1, if_neg h2]
      exact KE.t2 K rfl
  · rw [cvT_k K.x.1, chain_n N h _ hc h1, clT_r, if_neg (fun q => h1 q.1), if_neg h1]
    exact KE.t1 K rfl
/-- what the i-th step costs on the path to x -/
def zPaid (C : Cs) (c : Nat) (x : Int) (i : Nat) : Int := zPay ((C c).2.1 i).1 ((C c).2.1 i).2.1 ((C c).2.1 i).2.2 ((C c).2.2 i) (zPath C c x (i + 1))
theorem paid_K (N : Nat) (hN : 20000 ≤ N) (K : KS ρ h Q F ks) {c x i : Int} (hc : i32 c) (hx : i32 x) (hi : i32 i) : (¬ isSt F.1.1 c i → KE ρ h Q F ks (0 : Int64) 1 (f_K_paid N h (Q 0) (iI c) (iI x) (iI i))) ∧ (isSt F.1.1 c i → KE ρ h Q F ks (if -100000 ≤ x ∧ x ≤ 100000 then lI (zPaid F.1.1 c.toNat x i.toNat) else 0) (if -100000 ≤ x ∧ x ≤ 100000 then 0 else 2) (f_K_paid N h (Q 0) (iI c) (iI x) (iI i))) := by
  unfold f_K_paid f_K_paid_6
  constructor
  · intro q
    rw [cvT_k K.x.1, step_n N K hc hi q, clT_r]
    exact KE.t1 K rfl
  · intro q
    have h1 := q.1
    have C := K.ch h1
    have hs := C.sz
    obtain ⟨st, s1, s2⟩ := step_y N K q
    rw [cvT_k K.x.1, s1, clT_l]
    by_cases h2 : -100000 ≤ x ∧ x ≤ 100000
    · rw [nx_y N h h2, clT_l, if_pos h2, if_pos h2]
      unfold f_K_paid_12 f_K_paid_21 f_K_paid_28 f_K_paid_48
      obtain ⟨ρ', g, a1, a2, a3, a4, a5, a6⟩ := klay N hN K h1
      have hb := behind_is N (by omega) (a2.inv h1) (a2.ch h1) a2.2.1.2.2.1 a5 a6 h2 (many := i.toNat + 1) (by have := q.2; omega)
      rw [show ((i.toNat + 1 : Nat) : Int) = i + 1 by have := q.2; omega] at hb
      have hpb := zPd_bd (a2.inv h1) (a2.ch h1) h2 ((F.1.1 c.toNat).1 - (i.toNat + 1)) (by omega)
      have s3 := s2.keep a3 (fun z => by unfold RA RB at z; omega)
      obtain ⟨ρ2, g2, b1, b2, b3, b4⟩ := costBy_is N hN a2.2.1.1 s3 (x := zPd (F.1.1 c.toNat).2.1 (F.1.1 c.toNat).2.2 (F.1.1 c.toNat).1 x ((F.1.1 c.toNat).1 - (i.toNat + 1))) (by omega)
      have h6 := K.ko (i := 6) (k := 11) (l := 12) (n := 0) (by decide)
      have h6' := a2.ko (i := 6) (k := 11) (l := 12) (n := 0) (by decide)
      have h4 := a2.ko (i := 4) (k := 2) (l := 1) (n := 0) (by decide)
      refine ⟨ρ2, g2, ?_, a2.askB (b2.mono RW_B) b4, a3.trans (b2.mono (fun z hz => RA_B z (RW_B z hz))), by omega, fun z => absurd rfl z⟩
      rw [gR_k K.x.1, K.ref (i := 0) (k := 6) (j := 6) (by decide), cvT_k K.x.1, chain_y N K h1, clT_l, gR_k K.x.1, K.ref (i := 0) (k := 4) (j := 4) (by decide), cv_k (show h_k h (Q 6) = 10 + 1 from h6.1), a1, cl_s, gR_k a2.x.1, a2.ref (i := 0) (k := 4) (j := 4) (by decide), gR_k a2.x.1, a2.ref (i := 0) (k := 6) (j := 6) (by decide), cv_k (show h_k g (Q 6) = 10 + 1 from h6'.1), show (1 : Int32) = iI 1 from rfl, iI_add, hb, cl_s, cv_k (show h_k g (Q 4) = 1 + 1 from h4.1), b1, cl_s]
      rfl
    · rw [nx_n N h hx h2, clT_r, if_neg h2, if_neg h2]
      exact KE.t2 K rfl
/-- the class's state stays where the bench alone is written -/
theorem KS.goB (K : KS ρ h Q F ks) {ρ' : Nat → Nat} {g : hS} (t : tr ρ h RB ρ' g) (hb : BX ρ' g (Q 4) (Q 24) (Q 25)) : KS ρ' g Q F ks ∧ tr ρ h RA ρ' g := ⟨K.askB t hb, t.mono RA_B⟩
theorem sparedBy_K (N : Nat) (hN : 20000 ≤ N) (K : KS ρ h Q F ks) {c : Int} (hc : 0 ≤ c ∧ c ≤ 3) {i : Nat} (hi : i < (F.1.1 c.toNat).1) : ∃ ρ' g v, f_K_sparedBy N h (Q 0) (some (Q (40 + c.toNat))) (some (Q (20 + c.toNat))) (iI i) = some (lI v, g) ∧ zSpare F.1.1 c.toNat i v ∧ (-1000000000 ≤ v ∧ v ≤ 1000000000) ∧ KS ρ' g Q F ks ∧ tr ρ h RA ρ' g ∧ hm g + brs g (Q 4) ≤ hm h + brs h (Q 4) := by
  have C := K.ch hc
  have h4 := K.ko (i := 4) (k := 2) (l := 1) (n := 0) (by decide)
  obtain ⟨ρ1, g1, a1, a2, a3, a4, a5⟩ := stand_is N hN (l := 101 + c.toNat) (fun q => by unfold RB at q; omega) (Nat.le_of_lt hi) (K.v hc).2.2 C K.2.1.1
  obtain ⟨K1, T1⟩ := K.goB a2 a4.x
  have C1 := K1.ch hc
  have h41 := K1.ko (i := 4) (k := 2) (l := 1) (n := 0) (by decide)
  obtain ⟨ρ2, g2, v, b1, b2, b3, b4, b5⟩ := without_is N hN (l := 101 + c.toNat) (fun q => by unfold RB at q; omega) hi (K.v hc).2.2 C1 a4.x a5
  have start : f_K_sparedBy N h (Q 0) (some (Q (40 + c.toNat))) (some (Q (20 + c.toNat))) (iI i) = f_K_sparedBy_19 N g2 (Q 0) (some (Q (20 + c.toNat))) v := by
    unfold f_K_sparedBy f_K_sparedBy_9
    rw [gR_k K.x.1, K.ref (i := 0) (k := 4) (j := 4) (by decide), cv_k (show h_k h (Q 4) = 1 + 1 from h4.1), a1, cl_s, gR_k K1.x.1, K1.ref (i := 0) (k := 4) (j := 4) (by decide), cv_k (show h_k g1 (Q 4) = 1 + 1 from h41.1), b1, cl_s]
  rw [start]
  unfold f_K_sparedBy_19
  by_cases hok : ∀ j, j < (F.1.1 c.toNat).1 → okS (F.1.1 c.toNat).2.1 (F.1.1 c.toNat).2.2 i j
  · obtain ⟨v1, S2⟩ := b4 hok
    obtain ⟨K2, T2⟩ := K1.goB (b2.mono RW_B) S2.x
    have z := K2.cz hc
    have h42 := K2.ko (i := 4) (k := 2) (l := 1) (n := 0) (by decide)
    obtain ⟨w, s, lw, ls, B, cz, _⟩ := S2
    refine ⟨ρ2, g2, zLeast (zC F.1.1 c.toNat) - zLeast (zT (F.1.1 c.toNat).2.1 (F.1.1 c.toNat).2.2 i (F.1.1 c.toNat).1), ?_, ⟨fun _ => rfl, fun q => absurd hok q⟩, ?_, K2, T1.trans T2, by omega⟩
    · rw [v1, if_neg (by decide), gJ_k z.1.k, z.1.f.2.2.2, gR_k K2.x.1, K2.ref (i := 0) (k := 4) (j := 4) (by decide), gR_k (show h_k g2 (Q 4) = 1 + 1 from h42.1), B.2.1.1, gJ_k cz.1.k, cz.1.f.2.2.2, lI_sub]
    · have q1 := z.2.2.1.2
      have q2 := z.2.2.2
      have q3 := cz.2.2.1.2
      have q4 := cz.2.2.2
      omega
  · obtain ⟨v1, S2⟩ := b5 hok
    obtain ⟨K2, T2⟩ := K1.goB (b2.mono RW_B) S2
    refine ⟨ρ2, g2, -1000000000, ?_, ⟨fun q => absurd q hok, fun _ => rfl⟩, by omega, K2, T1.trans T2, by omega⟩
    rw [v1, if_pos rfl]
    rfl
theorem spared_K (N : Nat) (hN : 20000 ≤ N) (K : KS ρ h Q F ks) {c i : Int} (hc : i32 c) (hi : i32 i) : (isSt F.1.1 c i → ∃ v, zSpare F.1.1 c.toNat i.toNat v ∧ KE ρ h Q F ks (lI v) 0 (f_K_spared N h (Q 0) (iI c) (iI i))) ∧ (¬ isSt F.1.1 c i → KE ρ h Q F ks (0 : Int64) 1 (f_K_spared N h (Q 0) (iI c) (iI i))) := by
  unfold f_K_spared f_K_spared_6 f_K_spared_13 f_K_spared_18 f_K_spared_22
  constructor
  · intro q
    obtain ⟨st, s1, s2⟩ := step_y N K q
    obtain ⟨ρ', g, v, a1, a2, a3, a4, a5, a6⟩ := sparedBy_K N hN K q.1 (i := i.toNat) (by have := q.2; omega)
    rw [show (i.toNat : Int) = i by have := q.2; omega] at a1
    refine ⟨v, a2, ρ', g, ?_, a4, a5, by omega, fun z => absurd rfl z⟩
    rw [cvT_k K.x.1, s1, clT_l, cvT_k K.x.1, chain_y N K q.1, clT_l, cvT_k K.x.1, curve_y N K q.1, clT_l, cv_k K.x.1, a1, cl_s]
    rfl
  · intro q
    rw [cvT_k K.x.1, step_n N K hc hi q, clT_r]
    exact KE.t1 K rfl
theorem dear_K (N : Nat) (hN : 20000 ≤ N) {c : Int} (hc : 0 ≤ c ∧ c ≤ 3) (sp : Nat → Int) (hsp : ∀ i, i < (F.1.1 c.toNat).1 → zSpare F.1.1 c.toNat i (sp i)) : ∀ (q : Nat) (ρ : Nat → Nat) (h : hS) (fuel i : Nat) (b mo : Int), KS ρ h Q F ks → i + q = (F.1.1 c.toNat).1 → (-1 ≤ b ∧ b ≤ 100) → (-1000000000 ≤ mo ∧ mo ≤ 1000000000) → ∃ ρ' g, f_K_dearest_14 N (q + (fuel + 1)) h (Q 0) (iI c) (some (Q (40 + c.toNat))) (iI b) (lI mo) (iI i) = some (.inl (iI (zDear sp q i b mo)), g) ∧ KS ρ' g Q F ks ∧ tr ρ h RA ρ' g ∧ hm g + brs g (Q 4) ≤ hm h + brs h (Q 4) := by
  intro q
  induction q with
  | zero =>
    intro ρ h fuel i b mo K hi hb hmo
    have C := K.ch hc
    have hs := C.sz
    refine ⟨ρ, h, ?_, K, tr.rf, Nat.le_refl _⟩
    rw [Nat.zero_add]
    unfold f_K_dearest_14
    rw [gI_k C.k, hs.1, if_pos ((iI_le (by omega) (by omega)).mpr (by omega))]
    rfl
  | succ q ih =>
    intro ρ h fuel i b mo K hi hb hmo
    have C := K.ch hc
    have hs := C.sz
    obtain ⟨ρ1, g1, v, a1, a2, a3, a4, a5, a6⟩ := sparedBy_K N hN K hc (i := i) (by omega)
    have hv : v = sp i := zSpare_un a2 (hsp i (by omega))
    subst hv
    rw [show q + 1 + (fuel + 1) = (q + (fuel + 1)) + 1 by omega]
    unfold f_K_dearest_14 f_K_dearest_30 f_K_dearest_35 f_K_dearest_50 f_K_dearest_57
    rw [gI_k C.k, hs.1, if_neg (fun z => absurd ((iI_le (by omega) (by omega)).mp z) (by omega)), cvT_k K.x.1, curve_y N K hc, clT_l, cv_k K.x.1, a1, cl_s, show (1 : Int32) = iI 1 from rfl, iI_add, show (i : Int) + 1 = ((i + 1 : Nat) : Int) by omega, bn_i, bn_i]
    rw [zDear]
    have take : ∃ ρ' g, f_K_dearest_14 N (q + (fuel + 1)) g1 (Q 0) (iI c) (some (Q (40 + c.toNat))) (iI i) (lI (sp i)) (iI ((i + 1 : Nat) : Int)) = some (.inl (iI (zDear sp q (i + 1) i (sp i))), g) ∧ KS ρ' g Q F ks ∧ tr ρ h RA ρ' g ∧ hm g + brs g (Q 4) ≤ hm h + brs h (Q 4) := by
      obtain ⟨ρ2, g2, b1, b2, b3, b4⟩ := ih ρ1 g1 fuel (i + 1) i (sp i) a4 (by omega) (by omega) a3
      exact ⟨ρ2, g2, b1, b2, a5.trans b3, by omega⟩
    have pass : ∃ ρ' g, f_K_dearest_14 N (q + (fuel + 1)) g1 (Q 0) (iI c) (some (Q (40 + c.toNat))) (iI b) (lI mo) (iI ((i + 1 : Nat) : Int)) = some (.inl (iI (zDear sp q (i + 1) b mo)), g) ∧ KS ρ' g Q F ks ∧ tr ρ h RA ρ' g ∧ hm g + brs g (Q 4) ≤ hm h + brs h (Q 4) := by
      obtain ⟨ρ2, g2, b1, b2, b3, b4⟩ := ih ρ1 g1 fuel (i + 1) b mo a4 (by omega) hb hmo
      exact ⟨ρ2, g2, b1, b2, a5.trans b3, by omega⟩
    have hb9 : -9223372036854775808 ≤ sp i ∧ sp i ≤ 9223372036854775807 := by omega
    have hm9 : -9223372036854775808 ≤ mo ∧ mo ≤ 9223372036854775807 := by omega
    by_cases hb1 : b = -1
    · rw [if_pos (Or.inl hb1), if_pos (show iI b = -iI 1 by rw [hb1, iI_neg])]; exact take
    · rw [if_neg (show ¬ iI b = -iI 1 from fun z => hb1 ((iI_eq (by omega) (by omega)).mp (by rw [iI_neg] at z; exact z)))]
      by_cases hmo2 : mo < sp i
      · rw [if_pos (Or.inr hmo2), if_neg (show ¬ lg_cmp (lI (sp i)) (lI mo) ≤ 0 from fun z => absurd ((lg_gt0 hb9 hm9).mpr hmo2) (Int32.not_lt.mpr z))]; exact take
      · rw [if_neg (show ¬ (b = -1 ∨ mo < sp i) from fun z => z.elim hb1 hmo2), if_pos (show lg_cmp (lI (sp i)) (lI mo) ≤ 0 from Int32.not_lt.mp (fun z => hmo2 ((lg_gt0 hb9 hm9).mp z)))]; exact pass
theorem dearest_K (N : Nat) (hN : 20000 ≤ N) (K : KS ρ h Q F ks) {c : Int} (hc : i32 c) (sp : Nat → Int) (hsp : ∀ i, i < (F.1.1 c.toNat).1 → zSpare F.1.1 c.toNat i (sp i)) : KE ρ h Q F ks (if 0 ≤ c ∧ c ≤ 3 then iI (zDear sp (F.1.1 c.toNat).1 0 (-1) 0) else 0) (if 0 ≤ c ∧ c ≤ 3 then 0 else 1) (f_K_dearest N h (Q 0) (iI c)) := by
  unfold f_K_dearest f_K_dearest_5
  by_cases h1 : 0 ≤ c ∧ c ≤ 3
  · have hs := (K.ch h1).sz
    obtain ⟨fuel, hfu⟩ : ∃ fuel, N = (F.1.1 c.toNat).1 + (fuel + 1) := ⟨N - (F.1.1 c.toNat).1 - 1, by omega⟩
    obtain ⟨ρ', g, a1, a2, a3, a4⟩ := dear_K N hN h1 sp hsp (F.1.1 c.toNat).1 ρ h fuel 0 (-1) 0 K (by omega) (by omega) (by omega)
    refine ⟨ρ', g, ?_, a2, a3, by omega, fun z => absurd (if_pos h1) z⟩
    rw [cvT_k K.x.1, chain_y N K h1, clT_l, if_pos h1, if_pos h1]
    rw [← hfu] at a1
    exact a1
  · rw [cvT_k K.x.1, chain_n N h _ hc h1, clT_r, if_neg h1, if_neg h1]
    exact KE.t1 K rfl
theorem heavy_K (N : Nat) (hN : 20000 ≤ N) {c : Int} (hc : 0 ≤ c ∧ c ≤ 3) {i : Nat} (hi : i < (F.1.1 c.toNat).1) (hkd : ((F.1.1 c.toNat).2.1 i).1 ≤ 2) {much : Int} (hmu : 0 ≤ much ∧ much ≤ 100000000) : ∀ (w : Nat) (ρ : Nat → Nat) (h : hS) (fuel : Nat), KS ρ h Q F ks → CZ ρ 4 h (Q 24) (zT (F.1.1 c.toNat).2.1 (F.1.1 c.toNat).2.2 (-1) i) → w ≤ 41 → ∃ ρ' g v, f_K_heaviest_63 N (w + (fuel + 1)) h (Q 0) (iI i) (iI much) (some (Q (40 + c.toNat))) (iI ((w : Int) - 1)) = some (.inl (iI v), g) ∧ KS ρ' g Q F ks ∧ tr ρ h RA ρ' g ∧ hm g + brs g (Q 4) ≤ hm h + brs h (Q 4) ∧ zHeavy F.1.1 c.toNat i much ((w : Int) - 1) v := by
  intro w
  induction w with
  | zero =>
    intro ρ h fuel K C4 hw
    refine ⟨ρ, h, -1, ?_, K, tr.rf, Nat.le_refl _, Or.inl ⟨rfl, fun u h1 h2 => by omega⟩⟩
    rw [Nat.zero_add]
    unfold f_K_heaviest_63
    rw [if_pos (show iI (((0 : Nat) : Int) - 1) < (0 : Int32) by decide)]
    rfl
  | succ w ih =>
    intro ρ h fuel K C4 hw
    have C := K.ch hc
    have h4 := K.ko (i := 4) (k := 2) (l := 1) (n := 0) (by decide)
    obtain ⟨ρ1, g1, v, a1, a2, a3, a4, a5⟩ := with_is N hN (l := 101 + c.toNat) (fun q => by unfold RB at q; omega) hi (K.v hc).2.2 hkd (w := (w : Int)) (by omega) C K.2.1.1 C4
    have C41 := C4.keep a2 (fun q => by unfold RW at q; omega)
    rw [show w + 1 + (fuel + 1) = (w + (fuel + 1)) + 1 by omega, show ((w + 1 : Nat) : Int) - 1 = (w : Int) by omega]
    unfold f_K_heaviest_63 f_K_heaviest_80 f_K_heaviest_102
    rw [if_neg (show ¬ iI (w : Int) < (0 : Int32) from fun z => absurd ((iI_lt (b := 0) (by omega) (by omega)).mp z) (by omega)), gR_k K.x.1, K.ref (i := 0) (k := 4) (j := 4) (by decide), cv_k (show h_k h (Q 4) = 1 + 1 from h4.1), a1, cl_s, show iI (w : Int) + (-1 : Int32) = iI ((w : Int) - 1) from by rw [show (-1 : Int32) = iI (-1) from rfl, iI_add]; rfl, bn_i]
    have go : KS ρ1 g1 Q F ks → (¬ zBear F.1.1 c.toNat i much (w : Int)) → ∃ ρ' g v, f_K_heaviest_63 N (w + (fuel + 1)) g1 (Q 0) (iI i) (iI much) (some (Q (40 + c.toNat))) (iI ((w : Int) - 1)) = some (.inl (iI v), g) ∧ KS ρ' g Q F ks ∧ tr ρ h RA ρ' g ∧ hm g + brs g (Q 4) ≤ hm h + brs h (Q 4) ∧ zHeavy F.1.1 c.toNat i much (w : Int) v := by
      intro K1 hno
      obtain ⟨ρ2, g2, v2, b1, b2, b3, b4, b5⟩ := ih ρ1 g1 fuel K1 C41 (by omega)
      refine ⟨ρ2, g2, v2, b1, b2, (a2.mono (fun q z => RA_B q (RW_B q z))).trans b3, by omega, ?_⟩
      rcases b5 with ⟨e1, e2⟩ | ⟨e1, e2, e3⟩
      · refine Or.inl ⟨e1, fun u h1 h2 => ?_⟩
        by_cases hu : u = (w : Int)
        · rw [hu]; exact hno
        · exact e2 u h1 (by omega)
      · refine Or.inr ⟨by omega, e2, fun u h1 h2 => ?_⟩
        by_cases hu : u = (w : Int)
        · rw [hu]; exact hno
        · exact e3 u h1 (by omega)
    by_cases hok : zGoes F.1.1 c.toNat i (w : Int)
    · obtain ⟨v1, S1⟩ := a4 hok
      have K1 := K.askB (a2.mono RW_B) S1.x
      have h41 := K1.ko (i := 4) (k := 2) (l := 1) (n := 0) (by decide)
      obtain ⟨w0, s, lw, ls, B, cz, _⟩ := S1
      rw [v1, if_neg (by decide), gR_k K1.x.1, K1.ref (i := 0) (k := 4) (j := 4) (by decide), gR_k (show h_k g1 (Q 4) = 1 + 1 from h41.1), B.2.1.1, gJ_k cz.1.k, cz.1.f.2.2.2, iI_l (by omega) (by omega)]
      have q3 := cz.2.2.1.2
      have q4 := cz.2.2.2
      by_cases hle : zLeast (zT (pW (F.1.1 c.toNat).2.1 i (w : Int)) (F.1.1 c.toNat).2.2 (-1) (F.1.1 c.toNat).1) ≤ much
      · rw [if_neg (fun z => absurd ((lg_gt0 (by omega) (by omega)).mp z) (by omega))]
        exact ⟨ρ1, g1, (w : Int), rfl, K1, a2.mono (fun q z => RA_B q (RW_B q z)), a3, Or.inr ⟨by omega, ⟨hok, hle⟩, fun u h1 h2 => by omega⟩⟩
      · rw [if_pos ((lg_gt0 (by omega) (by omega)).mpr (by omega))]
        exact go K1 (fun z => hle z.2)
    · obtain ⟨v1, S1⟩ := a5 hok
      rw [v1, if_pos rfl]
      exact go (K.askB (a2.mono RW_B) S1) (fun z => hok z.1)
theorem heaviest_K (N : Nat) (hN : 20000 ≤ N) (K : KS ρ h Q F ks) {c i much : Int} (hc : i32 c) (hi : i32 i) (hmu : i32 much) : (¬ (isSt F.1.1 c i ∧ ((F.1.1 c.toNat).2.1 i.toNat).1 ≤ 2) → KE ρ h Q F ks (0 : Int32) 1 (f_K_heaviest N h (Q 0) (iI c) (iI i) (iI much))) ∧ ((isSt F.1.1 c i ∧ ((F.1.1 c.toNat).2.1 i.toNat).1 ≤ 2) → (¬ (0 ≤ much ∧ much ≤ 100000000) → KE ρ h Q F ks (0 : Int32) 2 (f_K_heaviest N h (Q 0) (iI c) (iI i) (iI much))) ∧ ((0 ≤ much ∧ much ≤ 100000000) → ∃ v, zHeavy F.1.1 c.toNat i.toNat much 40 v ∧ KE ρ h Q F ks (iI v) 0 (f_K_heaviest N h (Q 0) (iI c) (iI i) (iI much)))) := by
  unfold i32 at hmu
  unfold f_K_heaviest f_K_heaviest_6 f_K_heaviest_18 f_K_heaviest_21 f_K_heaviest_38 f_K_heaviest_39
  constructor
  · intro hn
    by_cases q : isSt F.1.1 c i
    · obtain ⟨st, s1, s2⟩ := step_y N K q
      have hk : h_k h st = 8 + 1 := s2.1.1
      have k0 := s2.2.2.1.1
      have hgt : 2 < ((F.1.1 c.toNat).2.1 i.toNat).1 := by
        by_cases z : ((F.1.1 c.toNat).2.1 i.toNat).1 ≤ 2
        · exact absurd ⟨q, z⟩ hn
        · omega
      rw [cvT_k K.x.1, s1, clT_l, gI_k hk, s2.2.1.1, if_pos (show (2 : Int32) < iI ((F.1.1 c.toNat).2.1 i.toNat).1 from (iI_lt (a := 2) (by omega) (by omega)).mpr hgt), such_0, clT_r]
      exact KE.t1 K rfl
    · rw [cvT_k K.x.1, step_n N K hc hi q, clT_r]
      exact KE.t1 K rfl
  · intro ⟨q, hkd⟩
    obtain ⟨st, s1, s2⟩ := step_y N K q
    have hk : h_k h st = 8 + 1 := s2.1.1
    have k0 := s2.2.2.1.1
    rw [cvT_k K.x.1, s1, clT_l, gI_k hk, s2.2.1.1, if_neg (show ¬ (2 : Int32) < iI ((F.1.1 c.toNat).2.1 i.toNat).1 from fun z => absurd ((iI_lt (a := 2) (by omega) (by omega)).mp z) (by omega)), such_1, clT_l]
    constructor
    · intro hn
      by_cases m0 : much < 0
      · rw [if_pos (show iI much < (0 : Int32) from (iI_lt (b := 0) hmu (by omega)).mpr m0), fit_0, clT_r]
        exact KE.t2 K rfl
      · rw [if_neg (show ¬ iI much < (0 : Int32) from fun z => m0 ((iI_lt (b := 0) hmu (by omega)).mp z)), iI_l hmu.1 hmu.2, if_pos (show (0 : Int32) < lg_cmp (lI much) (100000000 : Int64) from (lg_gt0 (b := 100000000) (by omega) (by omega)).mpr (by omega)), fit_0, clT_r]
        exact KE.t2 K rfl
    · intro hm2
      rw [if_neg (show ¬ iI much < (0 : Int32) from fun z => absurd ((iI_lt (b := 0) hmu (by omega)).mp z) (by omega)), iI_l hmu.1 hmu.2, if_neg (show ¬ (0 : Int32) < lg_cmp (lI much) (100000000 : Int64) from fun z => absurd ((lg_gt0 (b := 100000000) (by omega) (by omega)).mp z) (by omega)), fit_1, clT_l]
      unfold f_K_heaviest_42 f_K_heaviest_47 f_K_heaviest_59
      have hin : i.toNat < (F.1.1 c.toNat).1 := by have := q.2; omega
      have h4 := K.ko (i := 4) (k := 2) (l := 1) (n := 0) (by decide)
      obtain ⟨ρ1, g1, a1, a2, a3, a4, a5⟩ := stand_is N hN (l := 101 + c.toNat) (fun z => by unfold RB at z; omega) (Nat.le_of_lt hin) (K.v q.1).2.2 (K.ch q.1) K.2.1.1
      obtain ⟨K1, T1⟩ := K.goB a2 a4.x
      obtain ⟨fuel, hfu⟩ : ∃ fuel, N = 41 + (fuel + 1) := ⟨N - 42, by omega⟩
      obtain ⟨ρ2, g2, v, b1, b2, b3, b4, b5⟩ := heavy_K N hN q.1 hin hkd hm2 41 ρ1 g1 fuel K1 a5 (by omega)
      refine ⟨v, b5, ρ2, g2, ?_, b2, T1.trans b3, by omega, fun z => absurd rfl z⟩
      rw [show (i.toNat : Int) = i by have := q.2; omega] at a1 b1
      rw [cvT_k K.x.1, chain_y N K q.1, clT_l, gR_k K.x.1, K.ref (i := 0) (k := 4) (j := 4) (by decide), cv_k (show h_k h (Q 4) = 1 + 1 from h4.1), a1, cl_s]
      rw [← hfu] at b1
      exact b1
end
