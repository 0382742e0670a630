section
variable {ρ ρ' : Nat → Nat} {h g : hS} {Q : Nat → Nat} {S S' : StT} {Zs Zs' : Nat → Nat → Int} {I I' : Option StT} {T T' : Nat × (Nat → Int)} {f f' : Int} {ks ks' : List Nat} {F : FT}
/-- the tape is empty -/
theorem KW.t0 (K : KW ρ h Q S Zs I T f ks) : KW ρ (s_i h (Q 0) 1 0) Q S Zs I (0, T.2) f ks ∧ tr ρ h RC ρ (s_i h (Q 0) 1 0) ∧ hm (s_i h (Q 0) 1 0) + kpt (s_i h (Q 0) 1 0) Q = hm h + kpt h Q := by
  have x := K.x
  have t : tr ρ h (rg 17) ρ (s_i h (Q 0) 1 0) := tr_si x.2.1
  have im : IM ρ (s_i h (Q 0) 1 0) (Q 0) I := by
    have := K.2.2.2.2.1
    revert this
    cases I with
    | none => exact fun z => z
    | some S1 =>
      rintro ⟨P, p1, p2, p3⟩
      exact ⟨P, p1, p2.keep t (fun z => by have : (9 : Nat) = 17 := z; omega) (fun q h1 h2 z => by have : q = 17 := z; omega), p3⟩
  obtain ⟨q1, tp, q2, q3, q4, q5, q6, q7, q8⟩ := K.2.2.2.2.2.1
  have tpp : TP ρ (s_i h (Q 0) 1 0) (Q 0) (0, T.2) := ⟨by rw [h_i_si, if_pos rfl, upd_a]; rfl, tp, q2, q3, q4, q5, q6, Nat.zero_le _, fun i hi => absurd hi (Nat.not_lt_zero _)⟩
  obtain ⟨K1, m1⟩ := K.ow t (I' := I) (T' := (0, T.2)) (f' := f) (fun _ _ _ => rfl) im tpp (by rw [h_i_si, if_pos rfl, upd_o (by decide)]; exact K.2.2.2.2.2.2)
  have p1 : pIm (s_i h (Q 0) 1 0) (Q 0) = pIm h (Q 0) := rfl
  have p2 : pTp (s_i h (Q 0) 1 0) (Q 0) = pTp h (Q 0) := rfl
  have p3 : hm (s_i h (Q 0) 1 0) = hm h := rfl
  exact ⟨K1, t.mono (fun q z => by have : q = 17 := z; unfold RC; omega), by omega⟩
/-- the reader reads the first n bytes of the row tp -/
theorem rread_is (N : Nat) (hN : 1000 ≤ N) (K : KW ρ h Q S Zs I T f ks) (C : CN ρ h) {tp n : Nat} {B : Nat → Int} (hk : h_k h tp = 52) (hn : n ≤ h_n h tp ∧ h_n h tp ≤ 600) (hB : ∀ i, i < n → (0 ≤ B i ∧ B i ≤ 255) ∧ h_i h tp i = vp_nar .byte (iI (B i))) {cost : Int} (hc : 0 ≤ cost ∧ cost ≤ 3) : ∃ g, f_Reader_read N h (Q 3) (some tp) (iI n) (iI cost) = some ((), g) ∧ tr ρ h (rg 18) ρ g ∧ KW ρ g Q S Zs I T f ks ∧ hm g = hm h ∧ kpt g Q = kpt h Q ∧ rdL g Q (zText B n cost).1 ∧ h_i g (Q 3) 5 = iI (zText B n cost).2.1 ∧ ((zText B n cost).2.1 ≠ 0 → h_i g (Q 3) 6 = iI (zText B n cost).2.2) := by
  have f3 := K.1.1 (3, 6, 18, 0) (by decide)
  have f28 := K.1.1 (28, 50, 18, 40) (by decide)
  have f29 := K.1.1 (29, 50, 18, 40) (by decide)
  have f30 := K.1.1 (30, 50, 18, 40) (by decide)
  have f31 := K.1.1 (31, 50, 18, 40) (by decide)
  simp only [] at f3 f28 f29 f30 f31
  have ne3 : tp ≠ Q 3 := fun e => by rw [e, f3.1] at hk; exact absurd hk (by decide)
  obtain ⟨hb, ehb⟩ : ∃ hb, hb = s_r h (Q 3) 7 (some tp) := ⟨_, rfl⟩
  have tb : tr ρ h (rg 18) ρ hb := by rw [ehb]; exact tr_sr f3.2.1
  have rk : ∀ k, k ≠ 7 → h_r hb (Q 3) k = h_r h (Q 3) k := fun k hk => by rw [ehb, h_r_sr, if_pos rfl]; unfold va_up; rw [if_neg hk]
  have r7 : h_r hb (Q 3) 7 = some tp := by rw [ehb, h_r_sr, if_pos rfl]; unfold va_up; rw [if_pos rfl]
  have kb : h_k hb = h_k h := by rw [ehb]; rfl
  have nb : h_n hb = h_n h := by rw [ehb]; rfl
  have ib : h_i hb = h_i h := by rw [ehb]; rfl
  have X : RDQ ρ hb Q tp B n := ⟨⟨by rw [kb]; exact f3.1, r7, by rw [kb]; exact hk, by rw [nb]; exact hn, by rw [ib]; exact hB⟩, ⟨⟨by rw [kb]; exact f28.1, by rw [nb]; exact f28.2.2.1⟩, ⟨by rw [kb]; exact f29.1, by rw [nb]; exact f29.2.2.1⟩, ⟨by rw [kb]; exact f30.1, by rw [nb]; exact f30.2.2.1⟩, ⟨by rw [kb]; exact f31.1, by rw [nb]; exact f31.2.2.1⟩⟩, ⟨by rw [rk 0 (by decide)]; exact K.ref (i := 3) (k := 0) (j := 28) (by decide), by rw [rk 1 (by decide)]; exact K.ref (i := 3) (k := 1) (j := 29) (by decide), by rw [rk 2 (by decide)]; exact K.ref (i := 3) (k := 2) (j := 30) (by decide), by rw [rk 3 (by decide)]; exact K.ref (i := 3) (k := 3) (j := 31) (by decide)⟩, ⟨f28.2.1, f29.2.1, f30.2.1, f31.2.1, f3.2.1⟩, K.1.2.2⟩
  have D := X.1
  have Cb := C.keep tb (fun z => by have : (30 : Nat) = 18 := z; omega)
  obtain ⟨F0, hF0⟩ : ∃ F0, F0 = upd (upd (upd (upd (upd (upd (h_i hb (Q 3)) 8 (iI n)) 9 (iI cost)) 4 0) 5 0) 6 (-1)) 12 0 := ⟨_, rfl⟩
  have g8 : F0 8 = iI n := by rw [hF0, upd_o (by decide), upd_o (by decide), upd_o (by decide), upd_o (by decide), upd_o (by decide), upd_a]
  have g9 : F0 9 = iI cost := by rw [hF0, upd_o (by decide), upd_o (by decide), upd_o (by decide), upd_o (by decide), upd_a]
  have g4 : F0 4 = iI ((0 : Nat) : Int) := by rw [hF0, upd_o (by decide), upd_o (by decide), upd_o (by decide), upd_a]; rfl
  have g5 : F0 5 = 0 := by rw [hF0, upd_o (by decide), upd_o (by decide), upd_a]
  have g12 : F0 12 = iI ((0 : Nat) : Int) := by rw [hF0, upd_a]; rfl
  obtain ⟨h', F', a1, a2, a3, a4, a5, a6, a7, a8, a9, a10⟩ := read_loop (ρ := ρ) (Q := Q) (tp := tp) (n := n) (B := B) N hN hc 41 0 0 hb F0 (N - 42) (by omega) X Cb (Nat.zero_le _) g8 g4 g12 g5 g9
  rw [show 41 + (N - 42 + 1) = N by omega] at a1
  have tg : tr ρ h (rg 18) ρ (s_w h' (Q 3) F') := (tb.trans a2).trans (tr_sw f3.2.1)
  have m1 : hm (s_w h' (Q 3) F') = hm h := by
    have : hm (s_w h' (Q 3) F') = hm h' := rfl
    rw [this, a5, ehb]; rfl
  obtain ⟨K1, m2⟩ := K.rdw tg (fun k hk => by show h_r h' (Q 3) k = _; rw [a6, rk k (by omega)])
  have n28 : Q 28 ≠ Q 3 := fun e => by have := f28.1; rw [e, f3.1] at this; exact absurd this (by decide)
  have n29 : Q 29 ≠ Q 3 := fun e => by have := f29.1; rw [e, f3.1] at this; exact absurd this (by decide)
  have n30 : Q 30 ≠ Q 3 := fun e => by have := f30.1; rw [e, f3.1] at this; exact absurd this (by decide)
  have n31 : Q 31 ≠ Q 3 := fun e => by have := f31.1; rw [e, f3.1] at this; exact absurd this (by decide)
  refine ⟨_, ?_, tg, K1, m1, m2, ⟨?_, fun i hi => ?_⟩, ?_, fun z => ?_⟩
  · unfold f_Reader_read
    have e1 : jmn (iI (n : Int)) (iI ((h_n h tp : Nat) : Int)) = iI (n : Int) := by rw [jmn_is (by omega) (by omega)]; congr 1; omega
    have k6 : h_k hb (Q 3) = 5 + 1 := D.1
    rw [pR_k (show h_k h (Q 3) = 5 + 1 from f3.1), ← ehb, lnB_i (show h_k hb tp = 52 by rw [kb]; exact hk) (show h_n hb tp = h_n h tp by rw [nb]), e1, pI_k k6, pI_k (show h_k (s_i hb (Q 3) 8 (iI (n : Int))) (Q 3) = 5 + 1 from k6)]
    have z : s_i (s_i hb (Q 3) 8 (iI (n : Int))) (Q 3) 9 (iI cost) = s_w hb (Q 3) (upd (upd (h_i hb (Q 3)) 8 (iI n)) 9 (iI cost)) := by
      conv => lhs; rw [show hb = s_w hb (Q 3) (h_i hb (Q 3)) from (s_w_self hb (Q 3)).symm, s_w_i, s_w_i]
    rw [z, pW' D, pW' D, pW' D, pW' D, ← hF0]
    exact a1
  · rw [h_i_sw, if_pos rfl, a9, Nat.zero_add]; rfl
  · have := a10 i hi
    rw [Nat.zero_add] at this
    unfold RW4 at this ⊢
    rw [h_i_sw, if_neg n31, h_i_sw, if_neg n28, h_i_sw, if_neg n29, h_i_sw, if_neg n30]
    exact this
  · rw [h_i_sw, if_pos rfl]; exact a7
  · rw [h_i_sw, if_pos rfl]; exact a8 z
theorem KA.thr {α : Type} (K : KS ρ h Q F ks) {k : Nat} {r : Option ((α ⊕ Nat) × hS)} (e : r = some (.inr k, th h)) : KA ρ h Q ks (.inr k : α ⊕ Nat) F 1 r := by
  obtain ⟨K1, m1⟩ := K.w.nf (fun R => tr_th)
  exact ⟨ρ, th h, ks, e, K.thw.1, tr_th, by omega, by rw [m1, hm_th]; omega⟩
/-- a text, its cost and its length as they must be -/
theorem text_24 (N : Nat) (hN : 20000 ≤ N) (K : KS ρ h Q F ks) (C : CN ρ h) (hks : ks.length + 50 < N) {c : Int} (hc : 0 ≤ c ∧ c ≤ 3) {n : Nat} (hn : n ≤ F.2.2.1.1) : ((zText F.2.2.1.2 n c).2.1 ≠ 0 → KA ρ h Q ks (.inl (iI (zText F.2.2.1.2 n c).2.1) : Int32 ⊕ Nat) (rfS F.1 0, F.2.1, (0, F.2.2.1.2), ((zText F.2.2.1.2 n c).2.2 : Int)) (zText F.2.2.1.2 n c).1.length (f_K_text_24 N h (Q 0) (iI c) (iI n))) ∧ ((zText F.2.2.1.2 n c).2.1 = 0 → okX (txX F.1.1 (zText F.2.2.1.2 n c).1) → KA ρ h Q ks (.inl 0 : Int32 ⊕ Nat) (actS F.1 c.toNat (txX F.1.1 (zText F.2.2.1.2 n c).1), F.2.1, (0, F.2.2.1.2), -1) (zText F.2.2.1.2 n c).1.length (f_K_text_24 N h (Q 0) (iI c) (iI n))) ∧ ((zText F.2.2.1.2 n c).2.1 = 0 → ¬ okX (txX F.1.1 (zText F.2.2.1.2 n c).1) → ∃ j, ∃ hj : j < (zText F.2.2.1.2 n c).1.length, (∀ q, q < j → okS (txX F.1.1 (zText F.2.2.1.2 n c).1).2.1 (txX F.1.1 (zText F.2.2.1.2 n c).1).2.2 (-1) q) ∧ ¬ okS (txX F.1.1 (zText F.2.2.1.2 n c).1).2.1 (txX F.1.1 (zText F.2.2.1.2 n c).1).2.2 (-1) j ∧ KA ρ h Q ks (.inl 4 : Int32 ⊕ Nat) (rfS F.1 0, F.2.1, (0, F.2.2.1.2), (((zText F.2.2.1.2 n c).1[j]).1 : Int)) (zText F.2.2.1.2 n c).1.length (f_K_text_24 N h (Q 0) (iI c) (iI n))) := by
  have K0 := K.w
  have v := K.2.2.2.1.2
  obtain ⟨c1, c2⟩ := n4 hc
  obtain ⟨K1, t1, m1⟩ := K0.t0
  obtain ⟨q1, tp, q2, q3, q4, q5, q6, q7, q8⟩ := K0.2.2.2.2.2.1
  have C1 := C.keep t1 RC_30
  have ne : tp ≠ Q 0 := fun e => by have := K.x.1; rw [← e, q3] at this; exact absurd this (by decide)
  obtain ⟨g2, a1, a2, K2, a4, a5, a6, a7, a8⟩ := rread_is N (by omega) K1 C1 (tp := tp) (n := n) (B := F.2.2.1.2) (show h_k h tp = 52 from q3) (by show n ≤ h_n h tp ∧ h_n h tp ≤ 600; omega) (fun i hi => by rw [h_i_si, if_neg ne]; exact q8 i (by omega)) hc
  have C2 := C1.keep a2 (fun z => by have : (30 : Nat) = 18 := z; omega)
  obtain ⟨z1, z2, z3⟩ := zRd_ok F.2.2.1.2 n c 41 0 0 (Nat.zero_le _) (by omega)
  have zr := zRd_rng F.2.2.1.2 n c 41 0 0
  have eT : zRd F.2.2.1.2 n c 41 0 0 = zText F.2.2.1.2 n c := rfl
  rw [eT] at z1 z2 z3 zr
  have k3 : h_k g2 (Q 3) = 5 + 1 := (K2.ko (i := 3) (k := 6) (l := 18) (n := 0) (by decide)).1
  have tt2 : tr ρ h RC ρ g2 := t1.trans (a2.mono (fun q z => by have : q = 18 := z; unfold RC; omega))
  have st : f_K_text_24 N h (Q 0) (iI c) (iI n) = if iI (zText F.2.2.1.2 n c).2.1 = (0 : Int32) then (cv g2 (some (Q 0)) 12 (fun a => f_K_draftReadSteps N g2 a) fun _ h9 => f_K_text_75 N h9 (Q 0) (iI c)) else (gR g2 (some (Q 0)) 12 3 fun v10 => gI g2 v10 5 5 fun v11 => gR g2 (some (Q 0)) 12 3 fun v12 => gI g2 v12 5 6 fun v13 => cv g2 (some (Q 0)) 12 (fun a => f_K_refuseText N g2 a v11 v13) fun v14 h15 => some ((Sum.inl v14), h15)) := by
    unfold f_K_text_24
    rw [pI_k K.x.1, gR_k K1.x.1, K1.ref (i := 0) (k := 3) (j := 3) (by decide), gR_k K1.x.1, show h_r (s_i h (Q 0) 1 0) (Q 0) 0 = some tp from q2, cv_k (show h_k (s_i h (Q 0) 1 0) (Q 3) = 5 + 1 from (K1.ko (i := 3) (k := 6) (l := 18) (n := 0) (by decide)).1), a1, cl_s, gR_k K2.x.1, K2.ref (i := 0) (k := 3) (j := 3) (by decide), gI_k k3, a7]
  rw [st]
  by_cases f0 : (zText F.2.2.1.2 n c).2.1 = 0
  · rw [if_pos (show iI (zText F.2.2.1.2 n c).2.1 = (0 : Int32) by rw [f0]; rfl)]
    obtain ⟨ρ3, g3, ks3, b1, b2, K3, b4, b5, b6⟩ := draftRead_is N hN K2 C2 (by omega) z3 a6 hks
    have X3 : rdL g3 Q (zText F.2.2.1.2 n c).1 := a6.keep K2 b2 (fun z => by have : (18 : Nat) = 11 ∨ (18 : Nat) = 19 := z; omega)
    obtain ⟨ρ4, g4, w, d1, d2, d3, d4, d5⟩ := build_is N hN (show ¬ RW 19 from fun z => by unfold RW at z; omega) b4 K3.2.1.1
    have h4 := K3.ko (i := 4) (k := 2) (l := 1) (n := 0) (by decide)
    have tB := d2.mono RW_B
    have tt4 : tr ρ h RC ρ4 g4 := (tt2.trans (b2.mono (fun q z => by have : q = 11 ∨ q = 19 := z; unfold RC; omega))).trans (tB.mono RB_C)
    have e75 : (cv g2 (some (Q 0)) 12 (fun a => f_K_draftReadSteps N g2 a) fun _ h9 => f_K_text_75 N h9 (Q 0) (iI c)) = f_K_text_86 N g4 (Q 0) (iI c) w := by
      unfold f_K_text_75
      rw [cv_k K2.x.1, b1, cl_s, gR_k K3.x.1, K3.ref (i := 0) (k := 4) (j := 4) (by decide), gR_k K3.x.1, K3.ref (i := 0) (k := 15) (j := 15) (by decide), cv_k (show h_k g3 (Q 4) = 1 + 1 from h4.1), d1, cl_s]
    rw [e75]
    by_cases ok : okX (txX F.1.1 (zText F.2.2.1.2 n c).1)
    · refine ⟨fun z => absurd f0 z, fun _ _ => ?_, fun _ z => absurd ok z⟩
      obtain ⟨e1, B4⟩ := d4 ok
      obtain ⟨K4, m4⟩ := K3.bw tB B4.x
      have m4' := m4 d3
      obtain ⟨K5, t5, m5⟩ := K4.fw (-1)
      have D4 := b4.keep d2 (fun z => by unfold RW at z; omega) (fun z => by unfold RW at z; omega)
      have t5' : tr ρ4 g4 (rg 17) ρ4 (s_i g4 (Q 0) 2 (iI (-1))) := tr_si K4.x.2.1
      have D5 := D4.keep t5' (fun z => by have : (9 : Nat) = 17 := z; omega) (fun z => by have : (19 : Nat) = 17 := z; omega)
      have B5 := B4.keep t5' (fun q hq z => by have : q = 17 := z; unfold RB at hq; omega)
      obtain ⟨ρ6, g6, p1, p2, p3, p4⟩ := becomeK N (by omega) K5 v c1 (vC_tx v.1 (by omega) z3 ok) D5 B5
      refine ⟨ρ6, g6, ks3, ?_, p3, (tt4.trans t5).trans p2, b5, by omega⟩
      unfold f_K_text_86 f_K_text_119
      rw [if_neg (show ¬ w = 0 by rw [e1]; decide), pI_k K4.x.1, show (-1 : Int32) = iI (-1) by decide, cv_k K5.x.1, ← c2, p1, cl_s]
    · refine ⟨fun z => absurd f0 z, fun _ z => absurd z ok, fun _ _ => ?_⟩
      obtain ⟨e1, B4, j, j1, j2, j3, j4⟩ := d5 ok
      have j1' : j < (zText F.2.2.1.2 n c).1.length := j1
      obtain ⟨K4, m4⟩ := K3.bw tB B4
      have m4' := m4 d3
      have X4 : rdL g4 Q (zText F.2.2.1.2 n c).1 := X3.keep K3 d2 (fun z => by unfold RW at z; omega)
      obtain ⟨g5, r1, r2, r3, r4⟩ := refT_is N K4 v (4 : Int32) (((zText F.2.2.1.2 n c).1[j]).1 : Int)
      refine ⟨j, j1', j3, j4, ρ4, g5, ks3, ?_, r3, tt4.trans r2, b5, by omega⟩
      have r31 := K4.ko (i := 31) (k := 50) (l := 18) (n := 40) (by decide)
      have k3' : h_k g4 (Q 3) = 5 + 1 := (K4.ko (i := 3) (k := 6) (l := 18) (n := 0) (by decide)).1
      have h4' := K4.ko (i := 4) (k := 2) (l := 1) (n := 0) (by decide)
      have wp : f_Reader_wordPlace N g4 (Q 3) (iI j) = some (iI (((zText F.2.2.1.2 n c).1[j]).1 : Int), g4) := by
        unfold f_Reader_wordPlace f_Reader_wordPlace_23
        rw [if_neg (show ¬ iI (j : Int) < (0 : Int32) from fun z => absurd ((iI_lt (b := 0) (by omega) (by omega)).mp z) (by omega)), gR_k k3', K4.ref (i := 3) (k := 3) (j := 31) (by decide), lnA_i ⟨r31.1, r31.2⟩, if_neg (show ¬ iI ((40 : Nat) : Int) ≤ iI (j : Int) from fun z => absurd ((iI_le (by omega) (by omega)).mp z) (by omega)), gR_k k3', K4.ref (i := 3) (k := 3) (j := 31) (by decide), aI_iI (z := (j : Int)) ⟨r31.1, r31.2⟩ (by omega) (by omega) (by omega), Int.toNat_natCast, (X4.2 j j1').1]
      unfold f_K_text_86
      rw [if_pos (show w = 0 from e1), gR_k K4.x.1, K4.ref (i := 0) (k := 3) (j := 3) (by decide), gR_k K4.x.1, K4.ref (i := 0) (k := 4) (j := 4) (by decide), gI_k (show h_k g4 (Q 4) = 1 + 1 from h4'.1), j2, cv_k k3', wp, cl_s, cv_k K4.x.1, r1, cl_s]
  · refine ⟨fun _ => ?_, fun z => absurd z f0, fun z => absurd z f0⟩
    obtain ⟨g5, r1, r2, r3, r4⟩ := refT_is N K2 v (iI (zText F.2.2.1.2 n c).2.1) ((zText F.2.2.1.2 n c).2.2 : Int)
    rw [if_neg (show ¬ iI (zText F.2.2.1.2 n c).2.1 = (0 : Int32) from fun z => f0 ((iI_eq (b := 0) (by omega) (by omega)).mp z)), gR_k K2.x.1, K2.ref (i := 0) (k := 3) (j := 3) (by decide), gI_k k3, a7, gR_k K2.x.1, K2.ref (i := 0) (k := 3) (j := 3) (by decide), gI_k k3, a8 f0, cv_k K2.x.1, r1, cl_s]
    exact ⟨ρ, g5, ks, rfl, r3, tt2.trans r2, by omega, by omega⟩
theorem text_0 (N : Nat) (K : KS ρ h Q F ks) {c n : Int} (hc : i32 c) (h1 : ¬ (0 ≤ c ∧ c ≤ 3)) : KA ρ h Q ks (.inr 1 : Int32 ⊕ Nat) F 1 (f_K_text N h (Q 0) (iI c) (iI n)) := by
  refine KA.thr K ?_
  unfold f_K_text
  rw [ncost_n N h hc h1, clT_r]
theorem text_1 (N : Nat) (K : KS ρ h Q F ks) {c n : Int} (hn : i32 n) (h1 : 0 ≤ c ∧ c ≤ 3) (h2 : ¬ (0 ≤ n ∧ n ≤ F.2.2.1.1)) : KA ρ h Q ks (.inr 2 : Int32 ⊕ Nat) F 1 (f_K_text N h (Q 0) (iI c) (iI n)) := by
  obtain ⟨q1, tp, q2, q3, q4, q5, q6, q7, q8⟩ := K.w.2.2.2.2.2.1
  unfold i32 at hn
  refine KA.thr K ?_
  unfold f_K_text f_K_text_4 f_K_text_20 f_K_text_21
  rw [ncost_y N h h1, clT_l]
  by_cases q : n < 0
  · rw [if_pos (show iI n < (0 : Int32) from (iI_lt (b := 0) hn (by omega)).mpr q), fit_0, clT_r]
  · rw [if_neg (show ¬ iI n < (0 : Int32) from fun z => q ((iI_lt (b := 0) hn (by omega)).mp z)), gI_k K.x.1, q1, if_pos ((iI_lt (by omega) hn).mpr (by omega)), fit_0, clT_r]
theorem text_2 (N : Nat) (K : KS ρ h Q F ks) {c n : Int} (h1 : 0 ≤ c ∧ c ≤ 3) (h2 : 0 ≤ n ∧ n ≤ F.2.2.1.1) : f_K_text N h (Q 0) (iI c) (iI n) = f_K_text_24 N h (Q 0) (iI c) (iI ((n.toNat : Nat) : Int)) := by
  obtain ⟨q1, tp, q2, q3, q4, q5, q6, q7, q8⟩ := K.w.2.2.2.2.2.1
  unfold f_K_text f_K_text_4 f_K_text_20 f_K_text_21
  rw [ncost_y N h h1, clT_l, if_neg (show ¬ iI n < (0 : Int32) from fun z => absurd ((iI_lt (b := 0) (by omega) (by omega)).mp z) (by omega)), gI_k K.x.1, q1, if_neg (fun z => absurd ((iI_lt (by omega) (by omega)).mp z) (by omega)), fit_1, clT_l, show ((n.toNat : Nat) : Int) = n by omega]
end
