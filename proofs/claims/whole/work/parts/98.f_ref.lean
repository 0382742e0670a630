/-! THE REFERENCE: a text, all of it -/
section
variable {ρ : Nat → Nat} {A : Nat → Nat} {m : Nat} {h g u : hS} {F F' : FT} {R P U V : Nat → Int32} {β : Type}
theorem tkF_sc {j : Nat} (h : j ∉ scF) : j ∉ tkF := fun z => h (by
  simp only [List.mem_cons, List.not_mem_nil, or_false] at z ⊢; omega)
/-- a text without fault in its words: its steps are laid, run, and taken or refused -/
theorem text_95M (N : Nat) (hN : 30000 ≤ N) (X : RM ρ A m h F) {c : Int} (hc : 0 ≤ c ∧ c ≤ 3) {L : List (Nat × Int × Int × Int)} (h40 : L.length ≤ 40) (hL : ∀ q ∈ L, clOk c q) (hS : rdS (h_i h (A 18)) (h_i h (A 19)) 0 L) (h27 : h_i h m 27 = 0) (h1 : h_i h m 1 = 0) : (okX (txX F.1.1 L) → RX ρ A m h (0 : Int32) (actS F.1 c.toNat (txX F.1.1 L), F.2) 0 (f_M_text_95 N h m (iI c))) ∧ (∀ j, (hj : j < L.length) → (∀ q, q < j → okS (txX F.1.1 L).2.1 (txX F.1.1 L).2.2 (-1) q) → ¬ okS (txX F.1.1 L).2.1 (txX F.1.1 L).2.2 (-1) j → RX ρ A m h (4 : Int32) (rfS F.1 0, F.2.1, F.2.2.1, ((L[j]).1 : Int)) 0 (f_M_text_95 N h m (iI c))) := by
  have M := X.1.1
  have m18 : (18, 50, 644) ∈ mrows := by decide
  have m19 : (19, 50, 40) ∈ mrows := by decide
  have m2 : (2, 50, 644) ∈ mrows := by decide
  have m42 : (42, 50, 25760) ∈ mrows := by decide
  obtain ⟨n1, n2⟩ := n4 hc
  obtain ⟨s0, s1⟩ := hS
  have clj : ∀ j, (hj : j < L.length) → clOk c L[j] := fun j hj => hL _ (List.getElem_mem hj)
  have rng8 : ∀ j, j < L.length → (txP L j).1 = 8 → 0 ≤ (txP L j).2.1 ∧ (txP L j).2.1 ≤ 3 := fun j hj q => by
    obtain ⟨c1, c2, c3, c4⟩ := clj j hj
    rw [txP_at hj] at q ⊢
    have hh := c2.1 (by rw [q]; decide)
    rw [q] at hh
    exact ⟨by have := hh.1; unfold loF at this; simp at this; omega, by have := hh.2; unfold hiF at this; simp at this; omega⟩
  obtain ⟨ρ1, g1, a1, a2, a3, a4, a5, a6, a7, a8, a9⟩ := laysM N hN (K := fun j => (txP L j).1) (a := fun j => (txP L j).2.1) h40 (fun j hj => by
    show 0 ≤ (txP L j).1 ∧ (txP L j).1 ≤ 8
    rw [txP_at hj]; exact (clj j hj).1) rng8 X (by rw [s0, Nat.zero_add]) (fun j hj => by
    have := s1 j hj
    rw [Nat.zero_add] at this
    show _ = iI (txP L j).1 ∧ _ = iI (txP L j).2.1
    rw [txP_at hj]
    exact ⟨this.1, this.2.1⟩)
  have M1 := a2.1.1
  have Rx : R1 A g1 (A 18) 0 (txX F.1.1 L) := by
    refine ⟨by rw [a6 0 (fun j _ _ => by omega), s0, Nat.zero_add]; rfl, h40, fun i hi => ?_⟩
    have hi' : i < L.length := hi
    have q := s1 i hi'
    rw [Nat.zero_add] at q
    show h_i g1 (A 18) (0 + 1 + 4 * i) = iI (txP L i).1 ∧ h_i g1 (A 18) (0 + 1 + 4 * i + 1) = iI (txP L i).2.1 ∧ h_i g1 (A 18) (0 + 1 + 4 * i + 2) = iI (txP L i).2.2 ∧ ∃ t : Int, h_i g1 (A 18) (0 + 1 + 4 * i + 3) = iI t ∧ ((txP L i).1 = 8 → onB A g1 (h_i g1) t (zC F.1.1 (txP L i).2.1.toNat))
    rw [show 0 + 1 + 4 * i = 1 + 4 * i by omega, show 1 + 4 * i + 1 = 2 + 4 * i by omega, show 1 + 4 * i + 2 = 3 + 4 * i by omega, show 1 + 4 * i + 3 = 4 + 4 * i by omega, a6 (1 + 4 * i) (fun j _ _ => by omega), a6 (2 + 4 * i) (fun j _ _ => by omega), a6 (3 + 4 * i) (fun j _ _ => by omega), q.1, q.2.1, q.2.2.1]
    refine ⟨by rw [txP_at hi'], by rw [txP_at hi'], by rw [txP_at hi'], ?_⟩
    by_cases e8 : (txP L i).1 = 8
    · obtain ⟨t, t1, t2, t3⟩ := a9 i hi' e8
      have r8 := rng8 i hi' e8
      obtain ⟨l, l1, l2⟩ := a5 (txP L i).2.1.toNat (by omega)
      have t3' : h_i g1 (A 16) (txP L i).2.1.toNat = iI t := t3
      rw [t3'] at l1
      refine ⟨t, t2, fun _ => ?_⟩
      rcases l2 with z | z
      · rw [z] at l1
        have := (iI_eq (by omega) (by omega)).mp l1
        omega
      · have := (iI_eq (by omega) (by omega)).mp l1
        rw [this]; exact z.2
    · refine ⟨0, ?_, fun z => absurd z e8⟩
      rw [a6 (4 + 4 * i) (fun j hj k8 e => e8 (by
        have : j = i := by omega
        rw [← this]; exact k8)), q.2.2.2.1]
      rfl
  have oa : ∀ i, i < (txX F.1.1 L).1 → okArg ((txX F.1.1 L).2.1 i).1 ((txX F.1.1 L).2.1 i).2.1 ((txX F.1.1 L).2.1 i).2.2 := fun i hi => by
    have hi' : i < L.length := hi
    show okArg (txP L i).1 (txP L i).2.1 (txP L i).2.2
    rw [txP_at hi']
    obtain ⟨c1, c2, c3, c4⟩ := clj i hi'
    have := c2.arg c1
    rw [c4] at this
    exact this
  obtain ⟨g2, res, e1, e2, e3, e4, e5, e6, e7, e8⟩ := runsR N hN a2 Rx oa
  obtain ⟨X2, t2, hm2⟩ := a2.fr e2
  have M2 := X2.1.1
  have ho2 := (a2.ch e2.c).2.2.2.1
  have f27 : h_i g1 m 27 = 0 := by rw [a8 27 (by decide) (by decide) (by decide), h27]
  have f1 : h_i g1 m 1 = 0 := by rw [a8 1 (by decide) (by decide) (by decide), h1]
  have st : f_M_text_95 N h m (iI c) = if res = (0 : Int32) then (pI g2 (some m) 0 27 (4 : Int32) fun h6 => gR h6 (some m) 0 19 fun v7 => gI h6 (some m) 0 12 fun v8 => aI h6 50 v7 v8 fun v9 => pI h6 (some m) 0 28 v9 fun h10 => f_M_text_147 N h10 m (iI c)) else (f_M_text_147 N g2 m (iI c)) := by
    unfold f_M_text_95 f_M_text_110
    rw [gI_at M, h27, if_pos rfl, gR_at M m18, nn_s, cv_at M, a1, cl_s, gI_at M1, f27, if_pos rfl, gR_at M1 m18, nn_s, cv_at M1]
    refine (show cl (f_M_runs N g1 m (A 18) (iI ((0 : Nat) : Int))) _ = _ from ?_)
    rw [e1, cl_s]
  have pb2 : pTb A g2 = pTb A g1 := by unfold pTb; rw [e2.1.2.2.1]
  have pre : ∀ {α : Type} {ans : α} {F' : FT} {code : Int32} {r : Option (α × hS)}, RX ρ1 A m g2 ans F' code r → RX ρ A m h ans F' code r := fun {α ans F' code r} y => RX.pre' (a3.trans t2) (by rw [hm2, pb2]; exact a4) y
  constructor
  · intro ok
    have r1 := e7 ok
    obtain ⟨D0, hD0⟩ : ∃ D0 : List Nat, D0 = ((List.range 4).erase c.toNat).map (fun k => (h_i g1 (A 16) k).toInt.toNat) := ⟨_, rfl⟩
    have lD : D0.length ≤ 3 := by rw [hD0, List.length_map, List.length_erase_of_mem (by rw [List.mem_range]; exact n1), List.length_range]; omega
    obtain ⟨X3, c3, k3'⟩ := X2.acted n1 (x := txX F.1.1 L) (Rx.cg (fun j _ => by rw [e3]) ho2) (vC_tx X.2.2.2.2.1.2.1 h40 hL ok) lD (fun t ht q => by
      right
      obtain ⟨i, i1, i2, i3, i4⟩ := nm1.i e3 q
      rw [Rx.1] at i2
      have il : i < L.length := by
        have : ((txX F.1.1 L).1 : Int) = (L.length : Int) := rfl
        rw [iI_toInt (by omega) (by omega), this] at i2
        omega
      have q1 := s1 i il
      rw [Nat.zero_add] at q1
      rw [show 0 + 1 + 4 * i = 1 + 4 * i by omega, a6 (1 + 4 * i) (fun j _ _ => by omega), q1.1] at i3
      have cl' := clj i il
      have k8 : L[i].2.1 = 8 := (iI_eq (b := 8) (by have := cl'.1; omega) (by omega)).mp i3
      have k8' : (txP L i).1 = 8 := by rw [txP_at il]; exact k8
      obtain ⟨t', t1, t2', t3⟩ := a9 i il k8'
      rw [show 0 + 1 + 4 * i + 3 = 4 + 4 * i by omega, t2'] at i4
      have et : (t' : Int) = (t : Int) := (iI_eq (by omega) (by omega)).mp i4
      have r8 := rng8 i il k8'
      have nc : (txP L i).2.1 ≠ c := by rw [txP_at il]; exact cl'.2.2.1 k8
      have t3' : h_i g1 (A 16) (txP L i).2.1.toNat = iI t' := t3
      rw [hD0, List.mem_map]
      refine ⟨(txP L i).2.1.toNat, (List.mem_erase_of_ne (by omega)).mpr (by rw [List.mem_range]; omega), ?_⟩
      rw [t3', iI_toInt (by omega) (by omega)]
      omega)
    have b2 := X2.2.2.2.2.1.1.2.1
    have kp := keepM N hN M2 b2.2.1 b2.1
    have M3 : MO A m (s_i (s_w g2 (A 42) (kpT (h_i g2 (A 42)) (h_i g2 (A 2)) F.1.2.1)) m 41 (iI (((if F.1.2.1 < 40 then F.1.2.1 else 39) + 1 : Nat) : Int))) := M2
    have i2 : h_i (s_i (s_w g2 (A 42) (kpT (h_i g2 (A 42)) (h_i g2 (A 2)) F.1.2.1)) m 41 (iI (((if F.1.2.1 < 40 then F.1.2.1 else 39) + 1 : Nat) : Int))) (A 2) = h_i g2 (A 2) := by rw [h_i_si, if_neg (M.ne m2 (by decide)), h_i_sw, if_neg (M.nn m2 m42 (by decide))]
    have i18' : h_i (s_i (s_w g2 (A 42) (kpT (h_i g2 (A 42)) (h_i g2 (A 2)) F.1.2.1)) m 41 (iI (((if F.1.2.1 < 40 then F.1.2.1 else 39) + 1 : Nat) : Int))) (A 18) = h_i g2 (A 18) := by rw [h_i_si, if_neg (M.ne m18 (by decide)), h_i_sw, if_neg (M.nn m18 m42 (by decide))]
    have lp := text183 N M3 n1 161 0 (N - 162) (by omega)
    rw [nwT_0, s_w_self, show 161 + (N - 162 + 1) = N by omega, i2, i18'] at lp
    refine pre (X2.x c3 X3 ?_ (by rw [k3', e6 1 (by decide) (by decide), f1]))
    rw [st, if_neg (show ¬ res = (0 : Int32) by rw [r1]; decide)]
    unfold f_M_text_147
    rw [gI_at M2, e6 27 (by decide) (by decide), f27, if_pos rfl, cv_at M2, kp, cl_s]
    rw [n2] at lp
    exact lp
  · intro j hj jb jn
    obtain ⟨r0, r12⟩ := e8 j hj jb jn
    have q1 := s1 j hj
    rw [Nat.zero_add] at q1
    rw [st, if_pos (show res = (0 : Int32) from r0)]
    have f5 : frM A m g2 (s_i (s_i g2 m 27 4) m 28 (iI ((L[j]).1 : Int))) := (frM.field (by decide) 4).trans (frM.field (by decide) _)
    obtain ⟨X5, t5, hm5⟩ := X2.fr f5
    have M3 : MO A m (s_i g2 m 27 4) := M2
    have ep : (pI g2 (some m) 0 27 (4 : Int32) fun h6 => gR h6 (some m) 0 19 fun v7 => gI h6 (some m) 0 12 fun v8 => aI h6 50 v7 v8 fun v9 => pI h6 (some m) 0 28 v9 fun h10 => f_M_text_147 N h10 m (iI c)) = f_M_text_147 N (s_i (s_i g2 m 27 4) m 28 (iI ((L[j]).1 : Int))) m (iI c) := by
      rw [pI_at M2, gR_at M3 m19, gI_at M3, h_i_si, if_pos rfl, upd_o (by decide), r12, aI_iI (h := s_i g2 m 27 4) (z := (j : Int)) (M3.ro (i := 19) (n := 40) m19) (by omega) (by omega) (by omega), Int.toNat_natCast, h_i_si, if_neg (M.ne m19 (by decide)), e4, a7.2, q1.2.2.2.2, pI_at M3]
    rw [ep]
    have fin := flt147 N X5 (f := 4) (p := (L[j]).1) (by omega) (by rw [h_i_si, if_pos rfl, upd_o (by decide), h_i_si, if_pos rfl, upd_a]; rfl) (by rw [h_i_si, if_pos rfl, upd_a]) (by rw [h_i_si, if_pos rfl, upd_o (by decide), h_i_si, if_pos rfl, upd_o (by decide), e6 1 (by decide) (by decide), f1]) (iI c)
    exact pre (RX.pre X2 f5.c fin)
theorem text_M (N : Nat) (hN : 30000 ≤ N) (X : RM ρ A m h F) {c : Int} (hc : 0 ≤ c ∧ c ≤ 3) {n : Nat} (hn : n ≤ F.2.2.1.1) (hB : ∀ i, i < F.2.2.1.1 → 0 ≤ F.2.2.1.2 i ∧ F.2.2.1.2 i ≤ 255) : ((zText F.2.2.1.2 n c).2.1 ≠ 0 → RX ρ A m h (iI (zText F.2.2.1.2 n c).2.1) (rfS F.1 0, F.2.1, (0, F.2.2.1.2), ((zText F.2.2.1.2 n c).2.2 : Int)) 0 (f_M_text N h m (iI c) (iI n))) ∧ ((zText F.2.2.1.2 n c).2.1 = 0 → okX (txX F.1.1 (zText F.2.2.1.2 n c).1) → RX ρ A m h (0 : Int32) (actS F.1 c.toNat (txX F.1.1 (zText F.2.2.1.2 n c).1), F.2.1, (0, F.2.2.1.2), -1) 0 (f_M_text N h m (iI c) (iI n))) ∧ ((zText F.2.2.1.2 n c).2.1 = 0 → ∀ j, (hj : j < (zText F.2.2.1.2 n c).1.length) → (∀ q, q < j → okS (txX F.1.1 (zText F.2.2.1.2 n c).1).2.1 (txX F.1.1 (zText F.2.2.1.2 n c).1).2.2 (-1) q) → ¬ okS (txX F.1.1 (zText F.2.2.1.2 n c).1).2.1 (txX F.1.1 (zText F.2.2.1.2 n c).1).2.2 (-1) j → RX ρ A m h (4 : Int32) (rfS F.1 0, F.2.1, (0, F.2.2.1.2), (((zText F.2.2.1.2 n c).1[j]).1 : Int)) 0 (f_M_text N h m (iI c) (iI n))) := by
  obtain ⟨h0, R, P, U, st, X0, c0, T0, tk, u27, u22, r0, uj, k0⟩ := text_0M N hN X hc hn hB
  have M0 := X0.1.1
  obtain ⟨p1, p2⟩ := text73 N (by omega) X0 T0 hc 41 0 0 R P U (N - 42) (by omega) (by omega) (Nat.zero_le _) tk u27 u22 r0
  rw [show 41 + (N - 42 + 1) = N by omega] at p1 p2
  obtain ⟨z1, z2, z3⟩ := zRd_ok F.2.2.1.2 n c 41 0 0 (Nat.zero_le _) (by omega)
  have fr3 : (zRd F.2.2.1.2 n c 41 0 0).2.1 ≠ 0 → 1 ≤ (zRd F.2.2.1.2 n c 41 0 0).2.1 ∧ (zRd F.2.2.1.2 n c 41 0 0).2.1 ≤ 3 := fun z => by
    have := zRd_rng F.2.2.1.2 n c 41 0 0
    omega
  unfold zText
  generalize hZ : zRd F.2.2.1.2 n c 41 0 0 = Z at *
  refine ⟨fun z => ?_, fun z ok => ?_, fun z j hj jb jn => ?_⟩
  · obtain ⟨R', P', V, w1, w2, w3, w4⟩ := p2 z
    have fr' := fr3 z
    have ff : frM A m h0 (hW A m h0 R' P' V) := hW_f M0 (fun j hj => by
      have ne : ∀ k, k ∈ scF → j ≠ k := fun k hk e => hj (by rw [e]; exact hk)
      rw [w2 j (tkF_sc hj) (ne 27 (by decide)) (ne 28 (by decide)), uj j (tkF_sc hj)])
    obtain ⟨X1, _, _⟩ := X0.fr ff
    have im : h_i (hW A m h0 R' P' V) m = V := by unfold hW; rw [h_i_sw, if_pos rfl]
    have fin := flt147 N X1 (f := Z.2.1) (p := Z.2.2) (by omega) (by rw [im]; exact w3) (by rw [im]; exact w4) (by rw [im, w2 1 (by decide) (by decide) (by decide), uj 1 (by decide), k0]) (iI c)
    refine RX.pre X c0 (RX.pre X0 ff.c ?_)
    rw [st, w1]
    unfold f_M_text_95 f_M_text_110
    have ne : ¬ iI Z.2.1 = (0 : Int32) := fun y => by have := (iI_eq (b := 0) (by omega) (by omega)).mp y; omega
    rw [gI_w M0, w3, if_neg ne, gI_w M0, w3, if_neg ne]
    exact fin
  · obtain ⟨R', P', V, w1, w2, w3, w4, w5⟩ := p1 z
    have ff : frM A m h0 (hW A m h0 R' P' V) := hW_f M0 (fun j hj => by rw [w2 j (tkF_sc hj), uj j (tkF_sc hj)])
    obtain ⟨X1, _, _⟩ := X0.fr ff
    have im : h_i (hW A m h0 R' P' V) m = V := by unfold hW; rw [h_i_sw, if_pos rfl]
    have fin := (text_95M N hN X1 hc (L := Z.1) (by omega) z3 (by rw [i18 M0, i19 M0]; exact w3) (by rw [im, w2 27 (by decide), u27]) (by rw [im, w2 1 (by decide), uj 1 (by decide), k0])).1 ok
    refine RX.pre X c0 (RX.pre X0 ff.c ?_)
    rw [st, w1]
    exact fin
  · obtain ⟨R', P', V, w1, w2, w3, w4, w5⟩ := p1 z
    have ff : frM A m h0 (hW A m h0 R' P' V) := hW_f M0 (fun j hj => by rw [w2 j (tkF_sc hj), uj j (tkF_sc hj)])
    obtain ⟨X1, _, _⟩ := X0.fr ff
    have im : h_i (hW A m h0 R' P' V) m = V := by unfold hW; rw [h_i_sw, if_pos rfl]
    have fin := (text_95M N hN X1 hc (L := Z.1) (by omega) z3 (by rw [i18 M0, i19 M0]; exact w3) (by rw [im, w2 27 (by decide), u27]) (by rw [im, w2 1 (by decide), uj 1 (by decide), k0])).2 j hj jb jn
    refine RX.pre X c0 (RX.pre X0 ff.c ?_)
    rw [st, w1]
    exact fin
/-- no such cost; no such length -/
theorem text_1M (N : Nat) (X : RM ρ A m h F) {c n : Int} (hc : i32 c) (h1 : ¬ (0 ≤ c ∧ c ≤ 3)) : RX ρ A m h (0 : Int32) F 1 (f_M_text N h m (iI c) (iI n)) := by
  obtain ⟨X1, c1⟩ := X.code 0
  obtain ⟨X2, c2⟩ := X1.code 1
  refine X.x (c1.trans c2) X2 ?_ (code_a _ m 1)
  unfold f_M_text
  rw [pI_at X.1.1, cv_at X1.1.1, isCost_n N _ _ hc h1, cl_s, if_pos rfl, cv_at X1.1.1, failM N X1, cl_s]
theorem text_2M (N : Nat) (X : RM ρ A m h F) {c n : Int} (hn : i32 n) (h1 : 0 ≤ c ∧ c ≤ 3) (h2 : ¬ (0 ≤ n ∧ n ≤ F.2.2.1.1)) : RX ρ A m h (0 : Int32) F 2 (f_M_text N h m (iI c) (iI n)) := by
  unfold i32 at hn
  obtain ⟨X1, c1⟩ := X.code 0
  obtain ⟨X2, c2⟩ := X1.code 2
  have h6 := X.2.2.2.2.2.2.1.2.1
  have e20 : h_i (s_i h m 1 0) m 20 = iI F.2.2.1.1 := X1.2.2.2.2.2.2.1.1
  refine X.x (c1.trans c2) X2 ?_ (code_a _ m 2)
  have e31 : f_M_text_31 N (s_i h m 1 0) m = some (0, s_i (s_i h m 1 0) m 1 2) := by
    unfold f_M_text_31
    rw [cv_at X1.1.1, failM N X1, cl_s]
  unfold f_M_text
  rw [pI_at X.1.1, cv_at X1.1.1, isCost_y N _ _ h1, cl_s, if_neg (by decide)]
  by_cases q : n < 0
  · rw [if_pos (show iI n < (0 : Int32) from (iI_lt (b := 0) (by omega) (by omega)).mpr q), e31]
  · rw [if_neg (show ¬ iI n < (0 : Int32) from fun z => q ((iI_lt (b := 0) (by omega) (by omega)).mp z)), gI_at X1.1.1, e20, if_neg (fun z => h2 ⟨by omega, (iI_le (by omega) (by omega)).mp z⟩), e31]
end
