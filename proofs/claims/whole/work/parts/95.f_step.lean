/-- two heaps alike but for what stands in one cell -/
def al1 (q : Nat) (h g : hS) : Prop := h_k g = h_k h ∧ h_n g = h_n h ∧ h_x g = h_x h ∧ ∀ x, x ≠ q → h_i g x = h_i h x ∧ h_j g x = h_j h x ∧ h_r g x = h_r h x
section
variable {ρ ρ' : Nat → Nat} {h g : hS} {q : Nat}
theorem al1.rf : al1 q h h := ⟨rfl, rfl, rfl, fun _ _ => ⟨rfl, rfl, rfl⟩⟩
theorem al1.si (a : al1 q h g) (k : Nat) (v : Int32) : al1 q h (s_i g q k v) := ⟨a.1, a.2.1, a.2.2.1, fun x hx => by
  obtain ⟨b1, b2, b3⟩ := a.2.2.2 x hx
  exact ⟨by rw [h_i_si, if_neg hx]; exact b1, b2, b3⟩⟩
theorem al1.sr (a : al1 q h g) (k : Nat) (v : Option Nat) : al1 q h (s_r g q k v) := ⟨a.1, a.2.1, a.2.2.1, fun x hx => by
  obtain ⟨b1, b2, b3⟩ := a.2.2.2 x hx
  exact ⟨b1, b2, by rw [h_r_sr, if_neg hx]; exact b3⟩⟩
theorem KP.al (a : al1 q h g) (hq : h_k h q = 9) {k : Nat} {L : List (Int × Int)} {lf bt : Int} (K : KP ρ h k L lf bt) : KP ρ g k L lf bt := by
  obtain ⟨a1, a2, a3, a4⟩ := a
  obtain ⟨bb, q1, q2, q3, q4, q5⟩ := K
  have nk : k ≠ q := fun e => by have := q1.1; rw [e, hq] at this; exact absurd this (by decide)
  have nb : bb ≠ q := fun e => by have := q3.2.1; rw [e, hq] at this; exact absurd this (by decide)
  obtain ⟨b1, b2, b3⟩ := a4 k nk
  obtain ⟨c1, c2, c3⟩ := a4 bb nb
  exact ⟨bb, ⟨by rw [a1]; exact q1.1, q1.2.1, by rw [a3]; exact q1.2.2⟩, by rw [b1, b2]; exact q2, ⟨by rw [b3]; exact q3.1, by rw [a1]; exact q3.2.1, q3.2.2.1, by rw [a3]; exact q3.2.2.2.1, by rw [a2]; exact q3.2.2.2.2⟩, by rw [c2, a2]; exact q4, q5⟩
theorem KC.al (a : al1 q h g) (hq : h_k h q = 9) : ∀ {ks : List Nat} {o : Option Nat}, KC ρ h o ks → KC ρ g o ks := by
  intro ks
  induction ks with
  | nil => intro o z; exact z
  | cons k ks ih =>
    intro o ⟨q1, ⟨L, lf, bt, q2⟩, q3⟩
    refine ⟨q1, ⟨L, lf, bt, q2.al a hq⟩, ?_⟩
    obtain ⟨bb, z, _⟩ := q2
    rw [(a.2.2.2 k (fun e => by have := z.1; rw [e, hq] at this; exact absurd this (by decide))).2.2]
    exact ih q3
theorem SH.al (a : al1 q h g) (hq : h_k h q = 9) {sh : Nat} {ks : List Nat} (H : SH ρ h sh ks) : SH ρ g sh ks ∧ rsh g sh = rsh h sh := by
  obtain ⟨wr, q1, q2, q3⟩ := H
  have n1 : sh ≠ q := fun e => by have := q1.1; rw [e, hq] at this; exact absurd this (by decide)
  obtain ⟨a1, a2, a3, a4⟩ := id a
  obtain ⟨b1, b2, b3⟩ := a4 sh n1
  refine ⟨⟨wr, ⟨by rw [a1]; exact q1.1, q1.2.1, by rw [a3]; exact q1.2.2⟩, ⟨by rw [b3]; exact q2.1, by rw [a1]; exact q2.2.1, q2.2.2.1, by rw [a3]; exact q2.2.2.2.1, by rw [a2]; exact q2.2.2.2.2⟩, by rw [b3]; exact q3.al a hq⟩, ?_⟩
  rw [rsh_of q2.1, rsh_of (h := g) (by rw [b3]; exact q2.1), a2]
end
section
variable {ρ ρ' : Nat → Nat} {h g : hS} {Q : Nat → Nat} {S S' : StT} {Zs Zs' : Nat → Nat → Int} {I : Option StT} {T : Nat × (Nat → Int)} {f : Int} {ks ks' : List Nat} {R : Nat → Prop} {q : Nat}
/-- what is kept as a step: no number that the kind has not -/
def zSt (kd a b : Int) : Int × Int × Int := (kd, (if 1 ≤ zNum kd then a else 0), (if zNum kd = 2 then b else 0))
theorem CZ.keepable {l c : Nat} {Z : Nat → Int} (z : CZ ρ l h c Z) : srt (zK Z) ∧ (∀ e ∈ zK Z, -5000 ≤ e.1 ∧ e.1 ≤ 5000) ∧ zSum (zK Z) ≤ 5000 := ⟨zK_srt z.2.1.1, zK_rng, by rw [zK_sum]; exact z.2.2.1.1⟩
/-- the shelf is written, new cells are made -/
theorem KW.shelf (K : KW ρ h Q S Zs I T f ks) (t : tr ρ h (rg 11) ρ' g) (H : SH ρ' g (Q 5) ks') : KW ρ' g Q S Zs I T f ks' ∧ (hm g + rsh g (Q 5) ≤ hm h + rsh h (Q 5) + 284 → hm g + kpt g Q ≤ hm h + kpt h Q + 284) := by
  have n : ∀ q, q ≠ 11 → ¬ rg 11 q := fun q hq z => hq z
  obtain ⟨nD, pD, YD, D⟩ := K.2.1.2.2.2
  have hB := K.2.1.1.keep t (fun q hq => n q (by unfold RB at hq; omega))
  refine ⟨K.put t (n _ (by omega)) (n _ (by omega)) (n _ (by omega)) (n _ (by omega)) (fun q h1 h2 => n _ (by omega)) hB.1 H (K.2.1.2.2.1.keep t (n _ (by omega))).1 ⟨nD, pD, YD, D.keep t (n _ (by omega)) (n _ (by omega))⟩ (fun d hd => (K.2.2.1 d hd).keep t (n _ (by omega))) (K.2.2.2.1.keep t (n _ (by omega)) (fun q h1 h2 => n _ (by omega))), fun hm1 => ?_⟩
  unfold kpt
  rw [hB.2, K.pc t (fun c hc => n _ (by omega)), K.pn t (n _ (by omega)) (fun q h1 h2 => n _ (by omega)), K.pd t (n _ (by omega)), K.pim t (n _ (by omega)) (n _ (by omega)) (fun q h1 h2 => n _ (by omega)), K.ptp t (n _ (by omega))]
  omega
theorem init_is (N : Nat) (hk : h_k h q = 9) (x1 x2 x3 : Int32) (o : Option Nat) : f_Step_init N h q x1 x2 x3 o = some ((), s_r (s_i (s_i (s_i h q 0 x1) q 1 x2) q 2 x3) q 3 o) := by
  unfold f_Step_init
  rw [pI_k (show h_k h q = 8 + 1 from hk), pI_k (show h_k (s_i h q 0 x1) q = 8 + 1 from hk), pI_k (show h_k (s_i (s_i h q 0 x1) q 1 x2) q = 8 + 1 from hk), pR_k (show h_k (s_i (s_i (s_i h q 0 x1) q 1 x2) q 2 x3) q = 8 + 1 from hk)]
theorem init_f (x1 x2 x3 : Int32) (o : Option Nat) : h_i (s_r (s_i (s_i (s_i h q 0 x1) q 1 x2) q 2 x3) q 3 o) q 0 = x1 ∧ h_i (s_r (s_i (s_i (s_i h q 0 x1) q 1 x2) q 2 x3) q 3 o) q 1 = x2 ∧ h_i (s_r (s_i (s_i (s_i h q 0 x1) q 1 x2) q 2 x3) q 3 o) q 2 = x3 ∧ h_r (s_r (s_i (s_i (s_i h q 0 x1) q 1 x2) q 2 x3) q 3 o) q 3 = o := by
  refine ⟨?_, ?_, ?_, ?_⟩
  · rw [h_i_sr, h_i_si, if_pos rfl, h_i_si, if_pos rfl, h_i_si, if_pos rfl]; rfl
  · rw [h_i_sr, h_i_si, if_pos rfl, h_i_si, if_pos rfl]; rfl
  · rw [h_i_sr, h_i_si, if_pos rfl]; rfl
  · rw [h_r_sr, if_pos rfl]; unfold va_up; rw [if_pos rfl]
theorem newStep_is (N : Nat) (hN : 20000 ≤ N) (K : KW ρ h Q S Zs I T f ks) (C : CN ρ h) (hks : ks.length < N) {kd a b : Int} (hkd : 0 ≤ kd ∧ kd ≤ 8) (ok : okArg kd (zSt kd a b).2.1 (zSt kd a b).2.2) (h8 : kd = 8 → 0 ≤ a ∧ a ≤ 3) {Y : Nat → Int} (hY : kd = 8 → Y = Zs a.toNat) : ∃ ρ' g st ks', f_K_newStep N h (Q 0) (iI kd) (iI a) (iI b) = some (some st, g) ∧ tr ρ h (rg 11) ρ' g ∧ KW ρ' g Q S Zs I T f ks' ∧ ST ρ' g st (zSt kd a b) Y ∧ ks'.length ≤ ks.length + 1 ∧ hm g + kpt g Q ≤ hm h + kpt h Q + 284 := by
  have hz := zNum_rng kd
  have st1 : f_K_newStep N h (Q 0) (iI kd) (iI a) (iI b) = f_K_newStep_33 N (nw h 9 0 4) (Q 0) (iI kd) (iI (zSt kd a b).2.1) (iI (zSt kd a b).2.2) (some (h_x h)) := by
    unfold f_K_newStep f_K_newStep_13 f_K_newStep_28
    rw [nums_cl N C hkd, nums_cl N C hkd, nums_cl N C hkd]
    unfold nwO zSt
    simp only []
    by_cases e1 : 1 ≤ zNum kd
    · rw [if_pos e1, if_neg (show ¬ iI (zNum kd) < (1 : Int32) from fun z => absurd ((iI_lt (b := 1) (by omega) (by omega)).mp z) (by omega))]
      by_cases e2 : zNum kd = 2
      · rw [if_pos e2, if_pos (show iI (zNum kd) = (2 : Int32) by rw [e2]; rfl)]
      · rw [if_neg e2, if_neg (show ¬ iI (zNum kd) = (2 : Int32) from fun z => e2 ((iI_eq (b := 2) (by omega) (by omega)).mp z))]; rfl
    · rw [if_neg e1, if_pos (show iI (zNum kd) < (1 : Int32) from (iI_lt (b := 1) (by omega) (by omega)).mpr (by omega)), if_neg (show ¬ iI (zNum kd) = (2 : Int32) from fun z => by have := (iI_eq (b := 2) (by omega) (by omega)).mp z; omega), if_neg (show ¬ zNum kd = 2 by omega)]; rfl
  have t1 : ∀ R, tr ρ h R (ext ρ h 9) (nw h 9 0 4) := fun R => tr_nw
  have hk1 : h_k (nw h 9 0 4) (h_x h) = 9 := by rw [k_nw, if_pos rfl]
  have hl1 : ext ρ h 9 (h_x h) = 9 := by unfold ext; rw [if_neg (Nat.lt_irrefl _)]
  have m1 : hm (nw h 9 0 4) = hm h + 17 := by show 13 * (h_x h + 1) + (h_s h + 4) = 13 * h_x h + h_s h + 17; omega
  have H1 := K.2.1.2.1.keep (t1 (fun _ => False)) (fun z => z) (fun z => z)
  have r1 := K.psh (t1 (fun _ => False)) (fun z => z)
  have K1 := (K.shelf (t1 (rg 11)) H1).1
  rw [st1]
  unfold f_K_newStep_33 f_K_newStep_55 f_K_newStep_58 f_K_newStep_62
  by_cases e8 : kd = 8
  · have ha := h8 e8
    obtain ⟨c1, c2⟩ := n4 ha
    have ea : (zSt kd a b).2.1 = ((a.toNat : Nat) : Int) := by rw [c2]; unfold zSt; simp only []; rw [e8, if_pos (by decide)]
    have z := K1.2.2.1 _ c1
    obtain ⟨y1, y2, y3⟩ := z.keepable
    obtain ⟨ρ2, g2, k, ks', b1, b2, b3, b4, b5, b6⟩ := keep_is N hN K1.2.1.2.1 hks z.1 (by omega) y1 y2 y3
    have hq2 := b2.2 (h_x h) (by show h_x h < h_x h + 1; omega)
    have hk2 : h_k g2 (h_x h) = 9 := hq2.1.trans hk1
    have tt := (t1 (rg 11)).trans b2
    have A : al1 (h_x h) g2 (s_r (s_i (s_i (s_i g2 (h_x h) 0 (iI kd)) (h_x h) 1 (iI (zSt kd a b).2.1)) (h_x h) 2 (iI (zSt kd a b).2.2)) (h_x h) 3 (some k)) := (((al1.rf.si _ _).si _ _).si _ _).sr _ _
    have tf : tr ρ h (rg 11) ρ2 (s_r (s_i (s_i (s_i g2 (h_x h) 0 (iI kd)) (h_x h) 1 (iI (zSt kd a b).2.1)) (h_x h) 2 (iI (zSt kd a b).2.2)) (h_x h) 3 (some k)) := (((tt.ni (Nat.le_refl _)).ni (Nat.le_refl _)).ni (Nat.le_refl _)).nr (Nat.le_refl _)
    obtain ⟨H2, rH2⟩ := b4.al A hk2
    obtain ⟨K3, mK3⟩ := K.shelf tf H2
    obtain ⟨i0, i1, i2, i3⟩ := init_f (h := g2) (q := h_x h) (iI kd) (iI (zSt kd a b).2.1) (iI (zSt kd a b).2.2) (some k)
    have h5 := K1.1.1 (5, 7, 11, 0) (by decide)
    refine ⟨ρ2, _, h_x h, ks', ?_, tf, K3, ⟨⟨hk2, hq2.2.2.1.trans hl1, by have := b2.1; show h_x h < h_x g2; have e : h_x (nw h 9 0 4) = h_x h + 1 := rfl; omega⟩, ⟨i0, i1, i2⟩, ok, fun _ => ⟨k, i3, ?_, ?_⟩⟩, b5, mK3 ?_⟩
    · rw [if_pos (show iI kd = (8 : Int32) by rw [e8]; rfl), gR_k K1.x.1, K1.ref (i := 0) (k := 5) (j := 5) (by decide), ea, curve_w N K1 c1, cv_k (show h_k (nw h 9 0 4) (Q 5) = 6 + 1 from h5.1), b1, cl_s]
      simp only [nn]
      rw [init_is N hk2, cl_s]
    · rw [hY e8]; exact b3.al A hk2
    · rw [hY e8]; exact z.2
    · show hm g2 + rsh _ (Q 5) ≤ _
      rw [rH2]
      omega
  · have A : al1 (h_x h) (nw h 9 0 4) (s_r (s_i (s_i (s_i (nw h 9 0 4) (h_x h) 0 (iI kd)) (h_x h) 1 (iI (zSt kd a b).2.1)) (h_x h) 2 (iI (zSt kd a b).2.2)) (h_x h) 3 none) := (((al1.rf.si _ _).si _ _).si _ _).sr _ _
    have tf : tr ρ h (rg 11) (ext ρ h 9) (s_r (s_i (s_i (s_i (nw h 9 0 4) (h_x h) 0 (iI kd)) (h_x h) 1 (iI (zSt kd a b).2.1)) (h_x h) 2 (iI (zSt kd a b).2.2)) (h_x h) 3 none) := ((((t1 (rg 11)).ni (Nat.le_refl _)).ni (Nat.le_refl _)).ni (Nat.le_refl _)).nr (Nat.le_refl _)
    obtain ⟨H2, rH2⟩ := H1.al A hk1
    obtain ⟨K3, mK3⟩ := K.shelf tf H2
    obtain ⟨i0, i1, i2, i3⟩ := init_f (h := nw h 9 0 4) (q := h_x h) (iI kd) (iI (zSt kd a b).2.1) (iI (zSt kd a b).2.2) none
    refine ⟨ext ρ h 9, _, h_x h, ks, ?_, tf, K3, ⟨⟨hk1, hl1, by show h_x h < h_x h + 1; omega⟩, ⟨i0, i1, i2⟩, ok, fun z => absurd z e8⟩, by omega, mK3 ?_⟩
    · rw [if_neg (show ¬ iI kd = (8 : Int32) from fun z => e8 ((iI_eq (b := 8) (by omega) (by omega)).mp z))]
      simp only [nn]
      rw [init_is N hk1, cl_s]
    · show hm (nw h 9 0 4) + rsh _ (Q 5) ≤ _
      rw [rH2]
      omega
end
