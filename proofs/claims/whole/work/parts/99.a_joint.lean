/-! BOTH TOGETHER: the class and the reference in one heap -/
def OU (ρ : Nat → Nat) (h : hS) (o : Nat) : Prop := h_k h o = 51 ∧ h_n h o = 1 ∧ ρ o = 301 ∧ o < h_x h
def JS (ρ : Nat → Nat) (h : hS) (Q A : Nat → Nat) (m o : Nat) (F : FT) (ks : List Nat) : Prop := KS ρ h Q F ks ∧ RM ρ A m h F ∧ CN ρ h ∧ OU ρ h o
/-- all room: taken, and what may be taken yet -/
def jr (h : hS) (Q A : Nat → Nat) : Nat := hm h + kpt h Q + pTb A h
section
variable {ρ ρ' : Nat → Nat} {h g : hS} {Q A : Nat → Nat} {m o : Nat} {F F' : FT} {ks : List Nat} {R : Nat → Prop}
theorem OU.keep (O : OU ρ h o) (t : tr ρ h R ρ' g) : OU ρ' g o := by
  obtain ⟨q1, q2, q3, q4⟩ := O
  obtain ⟨a1, a2, a3, a4⟩ := t.2 o q4
  have := t.1
  exact ⟨a1.trans q1, a2.trans q2, a3.trans q3, by omega⟩
theorem RM.ptb (X : RM ρ A m h F) (t : tr ρ h R ρ' g) (h300 : ¬ R 300) : pTb A g = pTb A h := by
  have l7 := X.1.2.2 (7, 60, 1000) (by decide)
  obtain ⟨a1, a2, a3, a4⟩ := t.2 (A 7) l7.2
  have e := (a4 (by rw [l7.1]; exact h300)).2.2
  unfold pTb
  rw [e]
theorem KS.oth (K : KS ρ h Q F ks) (t : tr ρ h R ρ' g) (hR : ∀ q, R q → 300 ≤ q) : KS ρ' g Q F ks ∧ kpt g Q = kpt h Q := by
  have n : ∀ q, q < 300 → ¬ R q := fun q hq z => by have := hR q z; omega
  have W := K.w
  have hB := W.2.1.1.keep t (fun q hq => n q (by unfold RB at hq; omega))
  obtain ⟨nD, pD, YD, D⟩ := W.2.1.2.2.2
  have W' : KW ρ' g Q F.1 (zC F.1.1) F.2.1 F.2.2.1 F.2.2.2 ks := W.put t (n _ (by omega)) (n _ (by omega)) (n _ (by omega)) (n _ (by omega)) (fun q _ _ => n q (by omega)) hB.1 (W.2.1.2.1.keep t (n _ (by omega)) (n _ (by omega))) (W.2.1.2.2.1.keep t (n _ (by omega))).1 ⟨nD, pD, YD, D.keep t (n _ (by omega)) (n _ (by omega))⟩ (fun d hd => (W.2.2.1 d hd).keep t (n _ (by omega))) (W.2.2.2.1.keep t (n _ (by omega)) (fun q _ _ => n q (by omega)))
  refine ⟨W'.s (fun _ _ => rfl) K.2.2.2.1.2, ?_⟩
  unfold kpt
  rw [hB.2, W.psh t (n _ (by omega)), W.pc t (fun c hc => n _ (by omega)), W.pn t (n _ (by omega)) (fun q h1 h2 => n _ (by omega)), W.pd t (n _ (by omega)), W.pim t (n _ (by omega)) (n _ (by omega)) (fun q h1 h2 => n _ (by omega)), W.ptp t (n _ (by omega))]
theorem KS.kpy (K : KS ρ h Q F ks) (t : tr ρ h RY ρ' g) (hr : h_r g (Q 0) = h_r h (Q 0)) : kpt g Q + brs h (Q 4) = kpt h Q + brs g (Q 4) := by
  have n : ∀ q, ¬ (1 ≤ q ∧ q ≤ 5) → q ≠ 8 → ¬ (12 ≤ q ∧ q ≤ 17) → ¬ RY q := fun q h1 h2 h3 z => by
    unfold RY RA RB at z; omega
  have W := K.w
  have e1 : pIm g (Q 0) = pIm h (Q 0) := by
    have e := W.2.2.2.2.1
    unfold pIm
    rw [hr]
    revert e
    cases F.2.1 with
    | none => intro e; have e' : h_r h (Q 0) 17 = none := e; rw [e']
    | some S1 =>
      intro e
      obtain ⟨P, p1, p2, p3⟩ := e
      rw [p1]
      obtain ⟨lab, Y⟩ := p2.y
      exact Y.pk t (n _ (by omega) (by omega) (by omega)) (fun q h1 h2 => n _ (by omega) (by omega) (by omega))
  have e2 : pTp g (Q 0) = pTp h (Q 0) := by
    obtain ⟨q1, tp, q2, q3, q4, q5, _⟩ := W.2.2.2.2.2.1
    obtain ⟨b1, b2, b3, b4⟩ := t.2 tp q5
    unfold pTp
    rw [hr, q2]
    simp only []
    rw [b2]
  unfold kpt
  rw [W.psh t (n _ (by omega) (by omega) (by omega)), W.pc t (fun c hc => n _ (by omega) (by omega) (by omega)), W.pn t (n _ (by omega) (by omega) (by omega)) (fun q h1 h2 => n _ (by omega) (by omega) (by omega)), W.pd t (n _ (by omega) (by omega) (by omega)), e1, e2]
  omega
theorem RY_300 : ¬ RY 300 := fun z => by unfold RY RA RB at z; omega
theorem RY_30 : ¬ RY 30 := fun z => by unfold RY RA RB at z; omega
theorem RC_300 : ¬ RC 300 := fun z => by unfold RC at z; omega
end
/-- what a wrapper of the law leaves: its answer 0 and the class's answer in the row, or the number of the throw -/
def WR {α : Type} (rK : Option ((α ⊕ Nat) × hS)) (toL : α → Int64) (cd : Nat → Int32) (o : Nat) (k : Int32) (h1 : hS) : Prop := (∃ a g, rK = some (.inl a, g) ∧ k = 0 ∧ h1 = s_j g o 0 (toL a)) ∨ ∃ j g n, rK = some (.inr j, g) ∧ k = cd j ∧ (h_x g ≤ n + 1 ∧ n ≤ h_x g) ∧ h1 = sx g n
section
variable {ρ : Nat → Nat} {h : hS} {Q A : Nat → Nat} {m o : Nat} {F F' : FT} {ks : List Nat} {α β : Type}
/-- the reference's turn, behind the class's -/
theorem ref_J {ρ1 : Nat → Nat} {h1 : hS} {ks1 : List Nat} (K : KS ρ1 h1 Q F' ks1) (X1 : RM ρ1 A m h1 F) (C : CN ρ1 h1) (O : OU ρ1 h1 o) {b : β} {kM : Int32} {r : Option (β × hS)} (X : RX ρ1 A m h1 b F' kM r) : ∃ ρ2 h2, r = some (b, h2) ∧ h_i h2 m 1 = kM ∧ h_j h2 o = h_j h1 o ∧ JS ρ2 h2 Q A m o F' ks1 ∧ jr h2 Q A ≤ jr h1 Q A := by
  obtain ⟨ρ2, h2, x1, x2, x3, x4, x5⟩ := X
  obtain ⟨K2, k2⟩ := K.oth x3 (fun q z => by have : q = 300 := z; omega)
  have C2 := C.keep x3 (fun z => by have : (30 : Nat) = 300 := z; omega)
  obtain ⟨a1, a2, a3, a4⟩ := x3.2 o O.2.2.2
  refine ⟨ρ2, h2, x1, x5, (a4 (fun z => by have e : ρ1 o = 300 := z; rw [O.2.2.1] at e; omega)).2.1, ⟨K2, x2, C2, O.keep x3⟩, ?_⟩
  unfold jr
  omega
theorem ask_J (J : JS ρ h Q A m o F ks) {a : α} {kc : Int32} {rK : Option ((α ⊕ Nat) × hS)} (E : KY ρ h Q F ks a kc rK) {toL : α → Int64} {cd : Nat → Int32} {b : β} {kM : Int32} {fM : hS → Option (β × hS)} (X : ∀ ρ1 h1, RM ρ1 A m h1 F → RX ρ1 A m h1 b F kM (fM h1)) (hcd : (kc = 0 ∧ kM = 0) ∨ (kc = 1 ∧ kM = cd 1) ∨ (kc = 2 ∧ kM = cd 2)) (hc0 : cd 1 ≠ 0 ∧ cd 2 ≠ 0) {k : Int32} {h1 : hS} (w : WR rK toL cd o k h1) : ∃ ρ2 h2, fM h1 = some (b, h2) ∧ h_i h2 m 1 = k ∧ (k = 0 → kc = 0 ∧ h_j h2 o 0 = toL a) ∧ JS ρ2 h2 Q A m o F ks ∧ jr h2 Q A ≤ jr h Q A + 19 := by
  obtain ⟨K, M, C, O⟩ := J
  obtain ⟨ρ1, g, e1, K1, T1, m1, r1, th1⟩ := E
  have kp := K.kpy T1 r1
  by_cases z : kc = 0
  · have eo : oc a kc = .inl a := by unfold oc; rw [if_pos z]
    have eM : kM = 0 := by
      rcases hcd with q | q | q
      · exact q.2
      · exact absurd (z.symm.trans q.1) (by decide)
      · exact absurd (z.symm.trans q.1) (by decide)
    rw [eo] at e1
    rcases w with ⟨a', g', w1, w2, w3⟩ | ⟨j, g', n, w1, _⟩
    · rw [e1] at w1
      injection w1 with w1
      injection w1 with w1 w4
      injection w1 with w1
      subst w1 w4 w2 w3
      have M1 := M.keep T1 RY_300 RY_30
      have C1 := C.keep T1 RY_30
      have O1 := O.keep T1
      have p1 := M.ptb T1 RY_300
      have t2 : tr ρ1 g (rg 301) ρ1 (s_j g o 0 (toL a)) := tr_sj O1.2.2.1
      obtain ⟨K2, k2⟩ := K1.oth t2 (fun q z => by have : q = 301 := z; omega)
      have M2 := M1.keep t2 (fun z => by have : (300 : Nat) = 301 := z; omega) (fun z => by have : (30 : Nat) = 301 := z; omega)
      have C2 := C1.keep t2 (fun z => by have : (30 : Nat) = 301 := z; omega)
      have p2 := M1.ptb t2 (fun z => by have : (300 : Nat) = 301 := z; omega)
      obtain ⟨ρ2, h2, x1, x2, x3, x4, x5⟩ := ref_J K2 M2 C2 (O1.keep t2) (X _ _ M2)
      refine ⟨ρ2, h2, x1, x2.trans eM, fun _ => ⟨z, ?_⟩, x4, ?_⟩
      · rw [x3, h_j_sj, if_pos rfl]
        unfold vp_updL
        rw [if_pos rfl]
      · unfold jr at x5 ⊢
        have : hm (s_j g o 0 (toL a)) = hm g := rfl
        omega
    · rw [e1] at w1
      injection w1 with w1
      injection w1 with w1 w4
      cases w1
  · obtain ⟨g0, y1, y2, y3, y4, y5⟩ := th1 z
    obtain ⟨j0, ej, eM⟩ : ∃ j0, oc a kc = .inr j0 ∧ kM = cd j0 ∧ cd j0 ≠ 0 := by
      unfold oc
      rw [if_neg z]
      rcases hcd with q | q | q
      · exact absurd q.1 z
      · exact ⟨1, by rw [if_pos q.1], q.2, hc0.1⟩
      · exact ⟨2, by rw [if_neg (fun y => absurd (q.1.symm.trans y) (by decide))], q.2, hc0.2⟩
    rw [ej] at e1
    rcases w with ⟨a', g', w1, _⟩ | ⟨j, g', n, w1, w2, w5, w3⟩
    · rw [e1] at w1
      injection w1 with w1
      injection w1 with w1 w4
      cases w1
    · rw [e1] at w1
      injection w1 with w1
      injection w1 with w1 w4
      injection w1 with w1
      subst w1 w4 w3
      subst y1
      have w5' : h_x g0 + 1 ≤ n + 1 ∧ n ≤ h_x g0 + 1 := w5
      have kp0 := K.kpy y3 y5
      have M1 := M.keep y3 RY_300 RY_30
      have C1 := C.keep y3 RY_30
      have O1 := O.keep y3
      have p1 := M.ptb y3 RY_300
      have tt : ∀ R, tr ρ1 g0 R ρ1 (sx (th g0) n) := fun R => ⟨by show h_x g0 ≤ n; omega, fun _ _ => ⟨rfl, rfl, rfl, fun _ => ⟨rfl, rfl, rfl⟩⟩⟩
      have tF := tt (fun _ => False)
      obtain ⟨K2, k2⟩ := y2.oth tF (fun q z => z.elim)
      have M2 := M1.keep tF (fun z => z) (fun z => z)
      have C2 := C1.keep tF (fun z => z)
      have p2 := M1.ptb tF (fun z => z)
      obtain ⟨ρ2, h2, x1, x2, x3, x4, x5⟩ := ref_J K2 M2 C2 (O1.keep tF) (X _ _ M2)
      refine ⟨ρ2, h2, x1, x2.trans (eM.1.trans w2.symm), fun q => absurd (w2.symm.trans q) eM.2, x4, ?_⟩
      unfold jr at x5 ⊢
      have : hm (sx (th g0) n) ≤ hm g0 + 19 := by
        show 13 * n + (h_s g0 + 6) ≤ 13 * h_x g0 + h_s g0 + 19
        omega
      omega
theorem act_J (J : JS ρ h Q A m o F ks) {a : α} {d : Nat} {rK : Option (α × hS)} (E : KA ρ h Q ks a F' d rK) {b : β} {kM : Int32} {fM : hS → Option (β × hS)} (X : ∀ ρ1 h1, RM ρ1 A m h1 F → RX ρ1 A m h1 b F' kM (fM h1)) : ∃ g, rK = some (a, g) ∧ ∃ ρ2 h2 ks2, fM g = some (b, h2) ∧ h_i h2 m 1 = kM ∧ JS ρ2 h2 Q A m o F' ks2 ∧ ks2.length ≤ ks.length + d ∧ jr h2 Q A ≤ jr h Q A + 284 * d := by
  obtain ⟨K, M, C, O⟩ := J
  obtain ⟨ρ1, g, ks1, e1, K1, T1, l1, m1⟩ := E
  have M1 := M.keep T1 RC_300 RC_30
  have C1 := C.keep T1 RC_30
  have O1 := O.keep T1
  have p1 := M.ptb T1 RC_300
  obtain ⟨ρ2, h2, x1, x2, x3, x4, x5⟩ := ref_J K1 M1 C1 O1 (X _ _ M1)
  refine ⟨g, e1, ρ2, h2, ks1, x1, x2, x4, l1, ?_⟩
  unfold jr at x5 ⊢
  omega
end
