/-! THE OBJECT WHILE AN ACT GOES ON: curves and steps may be apart -/
def KW (ρ : Nat → Nat) (h : hS) (Q : Nat → Nat) (S : StT) (Zs : Nat → Nat → Int) (I : Option StT) (T : Nat × (Nat → Int)) (f : Int) (ks : List Nat) : Prop := (FX fixK ρ h Q ∧ RF refK h Q ∧ (Q 28 ≠ Q 29 ∧ Q 28 ≠ Q 30 ∧ Q 28 ≠ Q 31 ∧ Q 29 ≠ Q 30 ∧ Q 29 ≠ Q 31 ∧ Q 30 ≠ Q 31)) ∧ (BX ρ h (Q 4) (Q 24) (Q 25) ∧ SH ρ h (Q 5) ks ∧ TO ρ h (Q 6) (Q 26) (Q 27) ∧ ∃ n p Y, CH ρ 19 h (Q 15) n p Y) ∧ (∀ c, c < 4 → CZ ρ (20 + c) h (Q (20 + c)) (Zs c)) ∧ SX ρ h Q 100 S ∧ IM ρ h (Q 0) I ∧ TP ρ h (Q 0) T ∧ h_i h (Q 0) 2 = iI f
def pCu (h : hS) (Q : Nat → Nat) : Nat := sumN (fun c => rst (capR h (Q (20 + c)))) 4
def pTp (h : hS) (x : Nat) : Nat := match h_r h x 0 with
  | some tp => if h_n h tp = 0 then 613 else 0
  | none => 0
def pIm (h : hS) (x : Nat) : Nat := match h_r h x 17 with
  | none => 3766
  | some s => pSt h s
/-- all room that the object may take yet, but for new steps -/
def kpt (h : hS) (Q : Nat → Nat) : Nat := brs h (Q 4) + pCu h Q + rsh h (Q 5) + pSt h (Q 16) + rch h (Q 15) + pIm h (Q 0) + pTp h (Q 0)
def RC : Nat → Prop := fun q => q < 300 ∧ q ≠ 9 ∧ q ≠ 30
section
variable {ρ ρ' : Nat → Nat} {h g : hS} {Q : Nat → Nat} {S S' : StT} {Zs Zs' : Nat → Nat → Int} {I : Option StT} {T : Nat × (Nat → Int)} {f : Int} {ks ks' : List Nat} {R : Nat → Prop}
theorem KS.w {F : FT} (K : KS ρ h Q F ks) : KW ρ h Q F.1 (zC F.1.1) F.2.1 F.2.2.1 F.2.2.2 ks := ⟨K.1, K.2.1, K.2.2.1, K.2.2.2.1.1, K.2.2.2.2⟩
theorem KW.s {F : FT} (K : KW ρ h Q F.1 Zs F.2.1 F.2.2.1 F.2.2.2 ks) (hz : ∀ c, c < 4 → Zs c = zC F.1.1 c) (v : vS F.1) : KS ρ h Q F ks := ⟨K.1, K.2.1, fun c hc => by rw [← hz c hc]; exact K.2.2.1 c hc, ⟨K.2.2.2.1, v⟩, K.2.2.2.2⟩
theorem KW.x (K : KW ρ h Q S Zs I T f ks) : h_k h (Q 0) = 12 + 1 ∧ ρ (Q 0) = 17 ∧ Q 0 < h_x h := by
  obtain ⟨q1, q2, q3, q4⟩ := K.1.1 (0, 13, 17, 0) (by decide)
  exact ⟨q1, q2, q4⟩
theorem KW.ref (K : KW ρ h Q S Zs I T f ks) {i k j : Nat} (hi : (i, k, j) ∈ refK) : h_r h (Q i) k = some (Q j) := K.1.2.1 _ hi
theorem KW.ko (K : KW ρ h Q S Zs I T f ks) {i k l n : Nat} (hi : (i, k, l, n) ∈ fixK) : h_k h (Q i) = k ∧ h_n h (Q i) = n := ⟨(K.1.1 _ hi).1, (K.1.1 _ hi).2.2.1⟩
theorem KW.put (K : KW ρ h Q S Zs I T f ks) (t : tr ρ h R ρ' g) (h17 : ¬ R 17) (h6 : ¬ R 6) (h18 : ¬ R 18) (h9 : ¬ R 9) (hI : ∀ q, 200 ≤ q → q < 250 → ¬ R q) (hB : BX ρ' g (Q 4) (Q 24) (Q 25)) (hH : SH ρ' g (Q 5) ks') (hT : TO ρ' g (Q 6) (Q 26) (Q 27)) (hD : ∃ n p Y, CH ρ' 19 g (Q 15) n p Y) (hC : ∀ c, c < 4 → CZ ρ' (20 + c) g (Q (20 + c)) (Zs' c)) (hS : SX ρ' g Q 100 S') : KW ρ' g Q S' Zs' I T f ks' := by
  have hx := K.x.2
  have s0 := K.1.1.same t (e := (0, 13, 17, 0)) (by decide) h17
  simp only [] at s0
  exact ⟨⟨K.1.1.keep t, RF_K K.1.1 K.1.2.1 t h17 h6 h18, K.1.2.2⟩, ⟨hB, hH, hT, hD⟩, hC, hS, K.2.2.2.2.1.keep t hx h17 h9 hI, K.2.2.2.2.2.1.keep t hx h17, by rw [s0.1]; exact K.2.2.2.2.2.2⟩
theorem KW.pb (K : KW ρ h Q S Zs I T f ks) (t : tr ρ h R ρ' g) (hR : ∀ q, RB q → ¬ R q) : brs g (Q 4) = brs h (Q 4) := (K.2.1.1.keep t hR).2
theorem KW.pc (K : KW ρ h Q S Zs I T f ks) (t : tr ρ h R ρ' g) (hR : ∀ c, c < 4 → ¬ R (20 + c)) : pCu g Q = pCu h Q := sumN_congr 4 (fun c hc => by rw [(K.2.2.1 c hc).1.cap t (hR c hc)])
theorem KW.psh (K : KW ρ h Q S Zs I T f ks) (t : tr ρ h R ρ' g) (h11 : ¬ R 11) : rsh g (Q 5) = rsh h (Q 5) := by
  obtain ⟨wr, q1, q2, q3⟩ := K.2.1.2.1
  obtain ⟨a1, a2, a3, a4⟩ := t.2 (Q 5) q1.2.2
  obtain ⟨b1, b2, b3, b4⟩ := t.2 wr q2.2.2.2.1
  have e := (a4 (by rw [q1.2.1]; exact h11)).2.2
  rw [rsh_of q2.1, rsh_of (h := g) (by rw [e]; exact q2.1), b2]
theorem KW.pn (K : KW ρ h Q S Zs I T f ks) (t : tr ρ h R ρ' g) (h9 : ¬ R 9) (hR : ∀ q, 100 ≤ q → q < 150 → ¬ R q) : pSt g (Q 16) = pSt h (Q 16) := by
  obtain ⟨lab, Y⟩ := K.2.2.2.1.y
  exact Y.pk t h9 hR
theorem KW.pd (K : KW ρ h Q S Zs I T f ks) (t : tr ρ h R ρ' g) (h19 : ¬ R 19) : rch g (Q 15) = rch h (Q 15) := by
  obtain ⟨n, p, Y, C⟩ := K.2.1.2.2.2
  exact rch_keep C t h19
theorem KW.pim (K : KW ρ h Q S Zs I T f ks) (t : tr ρ h R ρ' g) (h9 : ¬ R 9) (h17 : ¬ R 17) (hR : ∀ q, 200 ≤ q → q < 250 → ¬ R q) : pIm g (Q 0) = pIm h (Q 0) := by
  have s0 := K.1.1.same t (e := (0, 13, 17, 0)) (by decide) h17
  simp only [] at s0
  have e := K.2.2.2.2.1
  unfold pIm
  rw [s0.2.2]
  revert e
  cases I with
  | none => intro e; have e' : h_r h (Q 0) 17 = none := e; rw [e']
  | some S1 =>
    intro e
    obtain ⟨P, p1, p2, p3⟩ := e
    rw [p1]
    obtain ⟨lab, Y⟩ := p2.y
    exact Y.pk t h9 hR
theorem KW.ptp (K : KW ρ h Q S Zs I T f ks) (t : tr ρ h R ρ' g) (h17 : ¬ R 17) : pTp g (Q 0) = pTp h (Q 0) := by
  have s0 := K.1.1.same t (e := (0, 13, 17, 0)) (by decide) h17
  simp only [] at s0
  obtain ⟨q1, tp, q2, q3, q4, q5, _⟩ := K.2.2.2.2.2.1
  obtain ⟨b1, b2, b3, b4⟩ := t.2 tp q5
  unfold pTp
  rw [s0.2.2, q2]
  simp only []
  rw [b2]
theorem curve_w (N : Nat) (K : KW ρ h Q S Zs I T f ks) {c : Nat} (hc : c < 4) {β : Type} (k : Option Nat → hS → Option β) : cv h (some (Q 0)) 12 (fun a => fN (f_K_curveOf N h a (iI c))) k = k (some (Q (20 + c))) h := by
  have hk := K.ko (i := 13) (k := 63) (l := 6) (n := 4) (by decide)
  have e : f_K_curveOf N h (Q 0) (iI c) = some (.inl (some (Q (20 + c))), h) := by
    unfold f_K_curveOf f_K_curveOf_4
    rw [ncost_y N h (c := (c : Int)) (by omega), clT_l, gR_k K.x.1, K.ref (i := 0) (k := 13) (j := 13) (by decide), aR_i hk.1 hk.2 (by omega) (by omega)]
    rcases (show c = 0 ∨ c = 1 ∨ c = 2 ∨ c = 3 by omega) with e | e | e | e <;> rw [e]
    · rw [K.ref (i := 13) (k := 0) (j := 20) (by decide)]
    · rw [K.ref (i := 13) (k := 1) (j := 21) (by decide)]
    · rw [K.ref (i := 13) (k := 2) (j := 22) (by decide)]
    · rw [K.ref (i := 13) (k := 3) (j := 23) (by decide)]
  rw [cv_k K.x.1, e]
  rfl
theorem chain_w (N : Nat) (K : KW ρ h Q S Zs I T f ks) {c : Nat} (hc : c < 4) {β : Type} (k : Option Nat → hS → Option β) : cv h (some (Q 0)) 12 (fun a => fN (f_K_chainOf N h a (iI c))) k = k (some (Q (40 + c))) h := by
  obtain ⟨lab, Y⟩ := K.2.2.2.1.y
  have e : f_K_chainOf N h (Q 0) (iI c) = some (.inl (some (Q (40 + c))), h) := by
    unfold f_K_chainOf f_K_chainOf_4
    rw [ncost_y N h (c := (c : Int)) (by omega), clT_l, gR_k K.x.1, K.ref (i := 0) (k := 16) (j := 16) (by decide), gR_k Y.f16.1, Y.ref (i := 16) (k := 0) (j := 32) (by decide), aR_i Y.f32.1 Y.f32.2.2.1 hc (by omega), Y.chr hc]
  rw [cv_k K.x.1, e]
  rfl
/-- the bench's table becomes a cost's curve -/
theorem curve_take (N : Nat) (K : KW ρ h Q S Zs I T f ks) {c : Nat} (hc : c < 4) {Z : Nat → Int} (B : BS ρ h (Q 4) (Q 24) (Q 25) Z) {w : Nat} (hw : h_r h (Q 4) 0 = some w) : ∃ ρ' g, f_Curve_take N h (Q (20 + c)) (some w) = some ((), g) ∧ tr ρ h (rg (20 + c)) ρ' g ∧ KW ρ' g Q S (fun d => if d = c then Z else Zs d) I T f ks ∧ hm g + kpt g Q ≤ hm h + kpt h Q := by
  obtain ⟨w0, s, lw, ls, BO, cz, c2, c3, c4⟩ := id B
  have e : w0 = w := by have := BO.2.1.1; rw [hw] at this; injection this with this; exact this.symm
  subst e
  have hlw : lw = 2 ∨ lw = 3 := by have := BO.2.2; omega
  obtain ⟨ρ', g, a1, a2, a3, a4, a5⟩ := ctake_is N (K.2.2.1 c hc).1.b cz.1 (show lw ≠ 20 + c by omega)
  have n : ∀ q, q ≠ 20 + c → ¬ rg (20 + c) q := fun q hq z => hq z
  have hB := (K.2.1.1.keep a2 (fun q hq => n q (by unfold RB at hq; omega)))
  obtain ⟨nD, pD, YD, D⟩ := K.2.1.2.2.2
  refine ⟨ρ', g, a1, a2, K.put a2 (n _ (by omega)) (n _ (by omega)) (n _ (by omega)) (n _ (by omega)) (fun q h1 h2 => n _ (by omega)) hB.1 (K.2.1.2.1.keep a2 (n _ (by omega)) (n _ (by omega))) (K.2.1.2.2.1.keep a2 (n _ (by omega))).1 ⟨nD, pD, YD, D.keep a2 (n _ (by omega)) (n _ (by omega))⟩ (fun d hd => ?_) (K.2.2.2.1.keep a2 (n _ (by omega)) (fun q h1 h2 => n _ (by omega))), ?_⟩
  · by_cases e : d = c
    · subst e; rw [if_pos rfl]; exact ⟨a3, cz.2⟩
    · rw [if_neg e]; exact (K.2.2.1 d hd).keep a2 (n _ (by omega))
  · have key := sumN_one (f := fun d => rst (capR h (Q (20 + d)))) (g := fun d => rst (capR g (Q (20 + d)))) (k := c) 4 hc (fun d hd hne => by rw [(K.2.2.1 d hd).1.cap a2 (n _ (by omega))])
    unfold kpt
    rw [hB.2, K.psh a2 (n _ (by omega)), K.pn a2 (n _ (by omega)) (fun q h1 h2 => n _ (by omega)), K.pd a2 (n _ (by omega)), K.pim a2 (n _ (by omega)) (n _ (by omega)) (fun q h1 h2 => n _ (by omega)), K.ptp a2 (n _ (by omega))]
    unfold pCu
    omega
/-- the draft becomes a cost's steps, the bench's table its curve -/
theorem become_is (N : Nat) (hN : 100 ≤ N) (K : KW ρ h Q S Zs I T f ks) (hna : S.2.1 ≤ 40) {c : Nat} (hc : c < 4) {x : ChT} (D : CH ρ 19 h (Q 15) x.1 x.2.1 x.2.2) {Z : Nat → Int} (B : BS ρ h (Q 4) (Q 24) (Q 25) Z) : ∃ ρ' g, f_K_become N h (Q 0) (iI c) = some (iI x.1, g) ∧ tr ρ h RC ρ' g ∧ KW ρ' g Q (actS S c x) (fun d => if d = c then Z else Zs d) I T f ks ∧ hm g + kpt g Q ≤ hm h + kpt h Q := by
  obtain ⟨lab, Y⟩ := K.2.2.2.1.y
  obtain ⟨ρ1, g1, lab1, a1, a2, a3, a4⟩ := act_is N hN Y (by omega) hna hc (l := 19) (by omega) D
  have n : ∀ q, ¬ (100 ≤ q ∧ q < 150) → ¬ (fun q => 100 ≤ q ∧ q < 100 + 50) q := fun q hq z => hq z
  have hB := (K.2.1.1.keep a2 (fun q hq => n q (by unfold RB at hq; omega)))
  have D1 := D.keep a2 (n _ (by omega)) (n _ (by omega))
  have K1 : KW ρ1 g1 Q (actS S c x) Zs I T f ks := K.put a2 (n _ (by omega)) (n _ (by omega)) (n _ (by omega)) (n _ (by omega)) (fun q h1 h2 => n _ (by omega)) hB.1 (K.2.1.2.1.keep a2 (n _ (by omega)) (n _ (by omega))) (K.2.1.2.2.1.keep a2 (n _ (by omega))).1 ⟨_, _, _, D1⟩ (fun d hd => (K.2.2.1 d hd).keep a2 (n _ (by omega))) a3.x
  have B1 : BS ρ1 g1 (Q 4) (Q 24) (Q 25) Z := B.keep a2 (fun q hq => n q (by unfold RB at hq; omega))
  have h4 := K1.ko (i := 4) (k := 2) (l := 1) (n := 0) (by decide)
  obtain ⟨w, hw⟩ : ∃ w, h_r g1 (Q 4) 0 = some w := by obtain ⟨w, s, lw, ls, BO, _⟩ := B1; exact ⟨w, BO.2.1.1⟩
  obtain ⟨ρ2, g2, b1, b2, b3, b4⟩ := curve_take N K1 hc B1 hw
  have D2 := D1.keep b2 (fun z => by have : 9 = 20 + c := z; omega) (fun z => by have : 19 = 20 + c := z; omega)
  have m1 : hm g1 + kpt g1 Q ≤ hm h + kpt h Q := by
    unfold kpt
    rw [hB.2, K.psh a2 (n _ (by omega)), K.pc a2 (fun c hc => n _ (by omega)), K.pd a2 (n _ (by omega)), K.pim a2 (n _ (by omega)) (n _ (by omega)) (fun q h1 h2 => n _ (by omega)), K.ptp a2 (n _ (by omega))]
    omega
  refine ⟨ρ2, g2, ?_, (a2.mono (fun q z => by have z' : 100 ≤ q ∧ q < 100 + 50 := z; unfold RC; omega)).trans (b2.mono (fun q z => by have : q = 20 + c := z; unfold RC; omega)), b3, by omega⟩
  unfold f_K_become f_K_become_12 f_K_become_17 f_K_become_27
  rw [gR_k K.x.1, K.ref (i := 0) (k := 16) (j := 16) (by decide), gR_k K.x.1, K.ref (i := 0) (k := 15) (j := 15) (by decide), cv_k Y.f16.1, a1, cl_s, curve_w N K1 hc, gR_k K1.x.1, K1.ref (i := 0) (k := 4) (j := 4) (by decide), gR_k (show h_k g1 (Q 4) = 1 + 1 from h4.1), hw, cv_k (K1.2.2.1 c hc).1.k, b1, cl_s, gR_k b3.x.1, b3.ref (i := 0) (k := 15) (j := 15) (by decide), gI_k D2.k, D2.sz.1]
end
