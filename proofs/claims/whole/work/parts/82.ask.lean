/-- how many places from x on, m of them, at which one table is less; the first of these -/
def zLd (Z Y : Nat → Int) : Nat → Int → Int × Int
  | 0, _ => (0, -10000000)
  | m + 1, x => if zVal Z x < zVal Y x then ((zLd Z Y m (x + 1)).1 + 1, x) else zLd Z Y m (x + 1)
theorem zLd_rng (Z Y : Nat → Int) : ∀ (m : Nat) (x : Int), 0 ≤ (zLd Z Y m x).1 ∧ (zLd Z Y m x).1 ≤ m := by
  intro m
  induction m with
  | zero => intro x; simp [zLd]
  | succ m ih =>
    intro x
    have := ih (x + 1)
    rw [zLd]
    split
    · simp only []; omega
    · omega
/-- how far two tables are apart at most, from x on -/
def zGp (Z Y : Nat → Int) : Nat → Int → Int → Int
  | 0, _, a => a
  | m + 1, x, a => zGp Z Y m (x + 1) (max a (if zVal Z x - zVal Y x < 0 then -(zVal Z x - zVal Y x) else zVal Z x - zVal Y x))
/-- where two tables meet, nearest to 0 -/
def zMt (Z Y : Nat → Int) (a b M : Int) : Prop := (M = -10000000 ∧ ∀ x, a ≤ x → x ≤ b → zVal Z x ≠ zVal Y x) ∨ ((a ≤ M ∧ M ≤ b) ∧ zVal Z M = zVal Y M ∧ ∀ x, a ≤ x → x ≤ b → zVal Z x = zVal Y x → (if M < 0 then -M else M) < (if x < 0 then -x else x) ∨ ((if M < 0 then -M else M) = (if x < 0 then -x else x) ∧ M ≤ x))
theorem zInv.val2 {Z : Nat → Int} (h : zInv Z) {x : Int} (h1 : -5000 ≤ x) (h2 : x ≤ 5000) : 0 ≤ zVal Z x ∧ zVal Z x ≤ 220000000 := h.val (by omega) (by omega)
section
variable {ρ : Nat → Nat} {h : hS} {Q : Nat → Nat} {F : FT} {ks : List Nat} {α : Type}
theorem KE.go {ρ1 : Nat → Nat} {g1 : hS} {a : α} {k : Int32} {r : Option ((α ⊕ Nat) × hS)} (T : tr ρ h RA ρ1 g1) (hm1 : hm g1 + brs g1 (Q 4) ≤ hm h + brs h (Q 4)) (E : KE ρ1 g1 Q F ks a k r) : KE ρ h Q F ks a k r := by
  obtain ⟨ρ2, g2, e1, e2, e3, e4, e5⟩ := E
  exact ⟨ρ2, g2, e1, e2, T.trans e3, by omega, fun z => by obtain ⟨g0, y1, y2, y3, y4⟩ := e5 z; exact ⟨g0, y1, y2, T.trans y3, by omega⟩⟩
/-- two walks along two costs -/
def WW (h : hS) (Q : Nat → Nat) (C : Cs) (c d : Nat) (x : Int) : Prop := WK h (Q 9) (Q (20 + c)) x (zC C c) ∧ WK h (Q 10) (Q (20 + d)) x (zC C d)
theorem KS.w9 (K : KS ρ h Q F ks) : h_k h (Q 9) = 12 ∧ ρ (Q 9) = 14 ∧ Q 9 < h_x h := by
  have := K.1.1 (9, 12, 14, 0) (by decide)
  exact ⟨this.1, this.2.1, this.2.2.2⟩
theorem KS.w10 (K : KS ρ h Q F ks) : h_k h (Q 10) = 12 ∧ ρ (Q 10) = 15 ∧ Q 10 < h_x h := by
  have := K.1.1 (10, 12, 15, 0) (by decide)
  exact ⟨this.1, this.2.1, this.2.2.2⟩
theorem WK.keep {wk c : Nat} {x : Int} {Z : Nat → Int} (W : WK h wk c x Z) {ρ' : Nat → Nat} {g : hS} {R : Nat → Prop} (t : tr ρ h R ρ' g) (hx : wk < h_x h) (hR : ¬ R (ρ wk)) : WK g wk c x Z := by
  obtain ⟨a1, a2, a3, a4⟩ := t.2 wk hx
  obtain ⟨a5, a6, a7⟩ := a4 hR
  obtain ⟨w1, w2, w3, w4, w5⟩ := W
  exact ⟨by rw [a7]; exact w1, by rw [a5]; exact w2, by rw [a5]; exact w3, by rw [a5]; exact w4, by rw [a6]; exact w5⟩
theorem KS.walk (K : KS ρ h Q F ks) {g : hS} {l : Nat} (hl : l = 14 ∨ l = 15) (t : tr ρ h (rg l) ρ g) (hmm : hm g = hm h) : KS ρ g Q F ks ∧ tr ρ h RA ρ g ∧ hm g + brs g (Q 4) ≤ hm h + brs h (Q 4) := by
  obtain ⟨k1, k2⟩ := K.ask0 t (fun q hq => by have : q = l := hq; unfold RA RB; omega)
  exact ⟨k1, t.mono (fun q hq => by have : q = l := hq; unfold RA; omega), by rw [k2, hmm]; exact Nat.le_refl _⟩
/-- both walks go on -/
theorem both_go (N : Nat) (K : KS ρ h Q F ks) {c d : Nat} (hc : c < 4) (hd : d < 4) {x : Int} (hx : -100000 ≤ x ∧ x ≤ 100000) (W : WW h Q F.1.1 c d x) : ∃ g1 g2, f_Walk_goOn N h (Q 9) = some ((), g1) ∧ f_Walk_goOn N g1 (Q 10) = some ((), g2) ∧ h_k g1 (Q 0) = 12 + 1 ∧ h_r g1 (Q 0) 10 = some (Q 10) ∧ h_k g1 (Q 10) = 11 + 1 ∧ KS ρ g2 Q F ks ∧ tr ρ h RA ρ g2 ∧ hm g2 + brs g2 (Q 4) ≤ hm h + brs h (Q 4) ∧ WW g2 Q F.1.1 c d (x + 1) := by
  have z1 := K.2.2.1 c hc
  obtain ⟨a9, b9, c9⟩ := K.w9
  obtain ⟨g1, e1, e2, e3, e4⟩ := goOn_is N a9 (by rw [b9]; omega) z1 hx W.1
  rw [b9] at e2
  obtain ⟨K1, T1, m1⟩ := K.walk (Or.inl rfl) e2 e4
  obtain ⟨a10, b10, c10⟩ := K1.w10
  have z2 := K1.2.2.1 d hd
  have W2 := W.2.keep e2 K.w10.2.2 (by rw [K.w10.2.1]; intro q; cases q)
  obtain ⟨g2, f1, f2, f3, f4⟩ := goOn_is N a10 (by rw [b10]; omega) z2 hx W2
  rw [b10] at f2
  obtain ⟨K2, T2, m2⟩ := K1.walk (Or.inr rfl) f2 f4
  have W1 := e3.keep f2 K1.w9.2.2 (by rw [K1.w9.2.1]; intro q; cases q)
  exact ⟨g1, g2, e1, f1, K1.x.1, K1.ref (i := 0) (k := 10) (j := 10) (by decide), a10, K2, T1.trans T2, by omega, ⟨W1, f3⟩⟩
/-- both walks start, or a cost is none such -/
theorem two_start (N : Nat) (hN : 20000 ≤ N) (K : KS ρ h Q F ks) {c d : Int} (hc : i32 c) (hd : i32 d) {x : Int} (hx : -100000 ≤ x ∧ x ≤ 100000) (a : α) (k : Int32) (f : hS → Option ((α ⊕ Nat) × hS)) (r0 : α)
    (h1 : ¬ ((0 ≤ c ∧ c ≤ 3) ∧ (0 ≤ d ∧ d ≤ 3)) → k = 1)
    (h2 : ∀ g, (0 ≤ c ∧ c ≤ 3) → (0 ≤ d ∧ d ≤ 3) → KS ρ g Q F ks → WW g Q F.1.1 c.toNat d.toNat x → KE ρ g Q F ks a k (f g)) :
    KE ρ h Q F ks a k (gR h (some (Q 0)) 12 9 fun v1 => cvT h (some (Q 0)) 12 (fun a => f_K_curveOf N h a (iI c)) fun v2 h3 => cv h3 v1 11 (fun a => f_Walk_startAt N h3 a v2 (iI x)) fun _ h4 => gR h4 (some (Q 0)) 12 10 fun v3 => cvT h4 (some (Q 0)) 12 (fun a => f_K_curveOf N h4 a (iI d)) fun v4 h5 => cv h5 v3 11 (fun a => f_Walk_startAt N h5 a v4 (iI x)) fun _ h6 => f h6) := by
  rw [gR_k K.x.1, K.ref (i := 0) (k := 9) (j := 9) (by decide), cvT_k K.x.1]
  by_cases c1 : 0 ≤ c ∧ c ≤ 3
  · rw [curve_y N K c1, clT_l]
    have z1 := K.cz c1
    obtain ⟨a9, b9, c9⟩ := K.w9
    obtain ⟨g1, e1, e2, e3, e4⟩ := start_is N hN a9 (by rw [b9]; omega) z1 hx
    rw [b9] at e2
    obtain ⟨K1, T1, m1⟩ := K.walk (Or.inl rfl) e2 e4
    rw [cv_k (show h_k h (Q 9) = 11 + 1 from a9), e1, cl_s, gR_k K1.x.1, K1.ref (i := 0) (k := 10) (j := 10) (by decide), cvT_k K1.x.1]
    by_cases d1 : 0 ≤ d ∧ d ≤ 3
    · rw [curve_y N K1 d1, clT_l]
      have z2 := K1.cz d1
      obtain ⟨a10, b10, c10⟩ := K1.w10
      obtain ⟨g2, f1, f2, f3, f4⟩ := start_is N hN a10 (by rw [b10]; omega) z2 hx
      rw [b10] at f2
      obtain ⟨K2, T2, m2⟩ := K1.walk (Or.inr rfl) f2 f4
      have W1 := e3.keep f2 K1.w9.2.2 (by rw [K1.w9.2.1]; intro q; cases q)
      rw [cv_k (show h_k g1 (Q 10) = 11 + 1 from a10), f1, cl_s]
      exact KE.go T1 m1 (KE.go T2 m2 (h2 g2 c1 d1 K2 ⟨W1, f3⟩))
    · rw [curve_n N g1 _ hd d1, clT_r, h1 (fun q => d1 q.2)]
      exact KE.go T1 m1 (KE.t1 K1 rfl)
  · rw [curve_n N h _ hc c1, clT_r, h1 (fun q => c1 q.1)]
    exact KE.t1 K rfl
theorem lead_loop (N : Nat) {c d : Nat} (hc : c < 4) (hd : d < 4) {w : Int} (hw : w = 0 ∨ w = 1) : ∀ (m : Nat) (h : hS) (x many first : Int) (fuel : Nat), KS ρ h Q F ks → WW h Q F.1.1 c d x → x + m = 501 → m ≤ 1001 → (0 ≤ many ∧ many + m ≤ 2000) → KE ρ h Q F ks (iI (if w = 0 then many + (zLd (zC F.1.1 c) (zC F.1.1 d) m x).1 else if many = 0 then (zLd (zC F.1.1 c) (zC F.1.1 d) m x).2 else first)) 0 (f_K_leads_60 N (m + (fuel + 1)) h (Q 0) (iI w) (iI many) (iI (if many = 0 then -10000000 else first)) (iI x)) := by
  intro m
  induction m with
  | zero =>
    intro h x many first fuel K W hx hm hmany
    rw [Nat.zero_add]
    unfold f_K_leads_60 f_K_leads_134
    rw [if_pos (show (500 : Int32) < iI x from (iI_lt (a := 500) (by omega) (by omega)).mpr (by omega))]
    rcases hw with e | e <;> subst e
    · rw [if_pos (show iI 0 = (0 : Int32) from rfl), if_pos rfl, zLd, Int.add_zero]
      exact KE.ok K rfl
    · rw [if_neg (show ¬ iI 1 = (0 : Int32) by decide), if_neg (by decide), zLd]
      exact KE.ok K rfl
  | succ m ih =>
    intro h x many first fuel K W hx hm hmany
    obtain ⟨a9, _, _⟩ := K.w9
    obtain ⟨a10, _, _⟩ := K.w10
    have v1 := (K.2.2.1 c hc).2.val2 (x := x) (by omega) (by omega)
    have v2 := (K.2.2.1 d hd).2.val2 (x := x) (by omega) (by omega)
    obtain ⟨g1, g2, e1, e2, e3, e4, e5, K2, T2, m2, W2⟩ := both_go N K hc hd (by omega) W
    rw [show m + 1 + (fuel + 1) = (m + (fuel + 1)) + 1 by omega]
    have step : ∀ (A B : Int32), f_K_leads_103 N (f_K_leads_60 N (m + (fuel + 1))) h (Q 0) (iI w) A B (iI x) = f_K_leads_60 N (m + (fuel + 1)) g2 (Q 0) (iI w) A B (iI (x + 1)) := fun A B => by
      unfold f_K_leads_103
      rw [gR_k K.x.1, K.ref (i := 0) (k := 9) (j := 9) (by decide), cv_k (show h_k h (Q 9) = 11 + 1 from a9), e1, cl_s, gR_k e3, e4, cv_k e5, e2, cl_s, bn_i, show (1 : Int32) = iI 1 from rfl, iI_add]
    have hst : f_K_leads_60 N (m + (fuel + 1) + 1) h (Q 0) (iI w) (iI many) (iI (if many = 0 then -10000000 else first)) (iI x) = if zVal (zC F.1.1 c) x < zVal (zC F.1.1 d) x then f_K_leads_60 N (m + (fuel + 1)) g2 (Q 0) (iI w) (iI (many + 1)) (iI (if many = 0 then x else first)) (iI (x + 1)) else f_K_leads_60 N (m + (fuel + 1)) g2 (Q 0) (iI w) (iI many) (iI (if many = 0 then -10000000 else first)) (iI (x + 1)) := by
      rw [← step, ← step]
      generalize hG : f_K_leads_103 = G
      generalize hR : f_K_leads_60 N (m + (fuel + 1)) = R
      unfold f_K_leads_60 f_K_leads_98
      rw [if_neg (show ¬ (500 : Int32) < iI x from fun z => absurd ((iI_lt (a := 500) (by omega) (by omega)).mp z) (by omega)), gR_k K.x.1, K.ref (i := 0) (k := 9) (j := 9) (by decide), gJ_k (show h_k h (Q 9) = 11 + 1 from a9), W.1.2.2.2.2, gR_k K.x.1, K.ref (i := 0) (k := 10) (j := 10) (by decide), gJ_k (show h_k h (Q 10) = 11 + 1 from a10), W.2.2.2.2.2, hG, hR]
      by_cases hlt : zVal (zC F.1.1 c) x < zVal (zC F.1.1 d) x
      · rw [if_neg (show ¬ (0 : Int32) ≤ lg_cmp (lI (zVal (zC F.1.1 c) x)) (lI (zVal (zC F.1.1 d) x)) from fun z => absurd ((lg_lt0 (by omega) (by omega)).mpr hlt) (Int32.not_lt.mpr z)), if_pos hlt, bn_i, bn_i, show (1 : Int32) = iI 1 from rfl, iI_add]
        by_cases m0 : many = 0
        · rw [if_pos (show iI many = (0 : Int32) by rw [m0]; rfl), if_pos m0]
        · rw [if_neg (show ¬ iI many = (0 : Int32) from fun z => m0 ((iI_eq (b := 0) (by omega) (by omega)).mp z)), if_neg m0, if_neg m0]
      · rw [if_pos (show (0 : Int32) ≤ lg_cmp (lI (zVal (zC F.1.1 c) x)) (lI (zVal (zC F.1.1 d) x)) from Int32.not_lt.mp (fun z => hlt ((lg_lt0 (by omega) (by omega)).mp z))), if_neg hlt]
    rw [hst, zLd]
    have hl := zLd_rng (zC F.1.1 c) (zC F.1.1 d) m (x + 1)
    by_cases hlt : zVal (zC F.1.1 c) x < zVal (zC F.1.1 d) x
    · rw [if_pos hlt, if_pos hlt]
      have := ih g2 (x + 1) (many + 1) (if many = 0 then x else first) fuel K2 W2 (by omega) (by omega) (by omega)
      rw [if_neg (show ¬ many + 1 = 0 by omega)] at this
      refine KE.go T2 m2 ?_
      rw [if_neg (show ¬ many + 1 = 0 by omega)] at this
      simp only []
      rw [show many + ((zLd (zC F.1.1 c) (zC F.1.1 d) m (x + 1)).1 + 1) = many + 1 + (zLd (zC F.1.1 c) (zC F.1.1 d) m (x + 1)).1 by omega]
      exact this
    · rw [if_neg hlt, if_neg hlt]
      exact KE.go T2 m2 (ih g2 (x + 1) many first fuel K2 W2 (by omega) (by omega) (by omega))
theorem leads_K (N : Nat) (hN : 20000 ≤ N) (K : KS ρ h Q F ks) {c d w : Int} (hc : i32 c) (hd : i32 d) (hw : i32 w) : KE ρ h Q F ks (if ((0 ≤ c ∧ c ≤ 3) ∧ (0 ≤ d ∧ d ≤ 3)) ∧ (0 ≤ w ∧ w ≤ 1) then iI (if w = 0 then (zLd (zC F.1.1 c.toNat) (zC F.1.1 d.toNat) 1001 (-500)).1 else (zLd (zC F.1.1 c.toNat) (zC F.1.1 d.toNat) 1001 (-500)).2) else 0) (if ((0 ≤ c ∧ c ≤ 3) ∧ (0 ≤ d ∧ d ≤ 3)) ∧ (0 ≤ w ∧ w ≤ 1) then 0 else 1) (f_K_leads N h (Q 0) (iI c) (iI d) (iI w)) := by
  unfold i32 at hw
  generalize hq : zLd (zC F.1.1 c.toNat) (zC F.1.1 d.toNat) 1001 (-500) = q
  unfold f_K_leads f_K_leads_9 f_K_leads_24
  rw [show (-500 : Int32) = iI (-500) by decide]
  refine two_start N hN K hc hd (x := -500) (by omega) _ _ (fun h6 => if iI w = (0 : Int32) then f_K_leads_39 N h6 (Q 0) (iI w) else if iI w = (1 : Int32) then f_K_leads_39 N h6 (Q 0) (iI w) else f_K_leads_44 N h6 (Q 0) (iI w) (0 : Int32)) 0 (fun q1 => if_neg (fun z => q1 z.1)) (fun g c1 d1 K1 W1 => ?_)
  unfold f_K_leads_39 f_K_leads_44
  rw [such_1, clT_l, such_0, clT_r]
  obtain ⟨fuel, hfu⟩ : ∃ fuel, N = 1001 + (fuel + 1) := ⟨N - 1002, by omega⟩
  have fin : (w = 0 ∨ w = 1) → KE ρ g Q F ks (iI (if w = 0 then q.1 else q.2)) 0 (f_K_leads_47 N g (Q 0) (iI w)) := fun hw2 => by
    have := lead_loop N (n4 c1).1 (n4 d1).1 hw2 1001 g (-500) 0 0 fuel K1 W1 (by omega) (by omega) (by omega)
    rw [hq, ← hfu, if_pos (show (0 : Int) = 0 from rfl), if_pos (show (0 : Int) = 0 from rfl), Int.zero_add] at this
    unfold f_K_leads_47
    rw [show (-10000000 : Int32) = iI (-10000000) by decide, show (-500 : Int32) = iI (-500) by decide, show (0 : Int32) = iI 0 from rfl]
    exact this
  by_cases w0 : w = 0
  · rw [if_pos (show iI w = (0 : Int32) by rw [w0]; rfl), if_pos (show ((0 ≤ c ∧ c ≤ 3) ∧ (0 ≤ d ∧ d ≤ 3)) ∧ (0 ≤ w ∧ w ≤ 1) from ⟨⟨c1, d1⟩, by omega⟩), if_pos (show ((0 ≤ c ∧ c ≤ 3) ∧ (0 ≤ d ∧ d ≤ 3)) ∧ (0 ≤ w ∧ w ≤ 1) from ⟨⟨c1, d1⟩, by omega⟩)]
    exact fin (Or.inl w0)
  · rw [if_neg (show ¬ iI w = (0 : Int32) from fun z => w0 ((iI_eq (b := 0) hw (by omega)).mp z))]
    by_cases w1 : w = 1
    · rw [if_pos (show iI w = (1 : Int32) by rw [w1]; rfl), if_pos (show ((0 ≤ c ∧ c ≤ 3) ∧ (0 ≤ d ∧ d ≤ 3)) ∧ (0 ≤ w ∧ w ≤ 1) from ⟨⟨c1, d1⟩, by omega⟩), if_pos (show ((0 ≤ c ∧ c ≤ 3) ∧ (0 ≤ d ∧ d ≤ 3)) ∧ (0 ≤ w ∧ w ≤ 1) from ⟨⟨c1, d1⟩, by omega⟩)]
      exact fin (Or.inr w1)
    · rw [if_neg (show ¬ iI w = (1 : Int32) from fun z => w1 ((iI_eq (b := 1) hw (by omega)).mp z)), if_neg (fun z => by omega), if_neg (fun z => by omega)]
      exact KE.t1 K1 rfl
theorem zMt_step {Z Y : Nat → Int} {x M : Int} (h : zMt Z Y (-1000) (x - 1) M) (hx : -1000 ≤ x ∧ x ≤ 1000) : (zVal Z x = zVal Y x → ((if M < 0 then -M else M) ≤ (if x < 0 then -x else x)) → zMt Z Y (-1000) x M) ∧ (zVal Z x = zVal Y x → ¬ ((if M < 0 then -M else M) ≤ (if x < 0 then -x else x)) → zMt Z Y (-1000) x x) ∧ (zVal Z x ≠ zVal Y x → zMt Z Y (-1000) x M) := by
  refine ⟨fun e hle => ?_, fun e hle => ?_, fun e => ?_⟩
  · rcases h with ⟨h1, h2⟩ | ⟨h1, h2, h3⟩
    · exfalso
      subst h1
      rw [if_pos (by omega)] at hle
      split at hle <;> omega
    · refine Or.inr ⟨by omega, h2, fun y y1 y2 y3 => ?_⟩
      by_cases hy : y = x
      · rw [hy]
        by_cases hq : (if M < 0 then -M else M) = (if x < 0 then -x else x)
        · exact Or.inr ⟨hq, by omega⟩
        · exact Or.inl (by omega)
      · exact h3 y y1 (by omega) y3
  · refine Or.inr ⟨by omega, e, fun y y1 y2 y3 => ?_⟩
    by_cases hy : y = x
    · rw [hy]; exact Or.inr ⟨rfl, Int.le_refl _⟩
    · rcases h with ⟨h1, h2⟩ | ⟨h1, h2, h3⟩
      · exact absurd y3 (h2 y y1 (by omega))
      · have := h3 y y1 (by omega) y3
        left
        omega
  · rcases h with ⟨h1, h2⟩ | ⟨h1, h2, h3⟩
    · refine Or.inl ⟨h1, fun y y1 y2 => ?_⟩
      by_cases hy : y = x
      · rw [hy]; exact e
      · exact h2 y y1 (by omega)
    · refine Or.inr ⟨by omega, h2, fun y y1 y2 y3 => ?_⟩
      by_cases hy : y = x
      · rw [hy] at y3; exact absurd y3 e
      · exact h3 y y1 (by omega) y3
theorem zMt_un {Z Y : Nat → Int} {a b M M' : Int} (h : zMt Z Y a b M) (h' : zMt Z Y a b M') : M = M' := by
  rcases h with ⟨h1, h2⟩ | ⟨h1, h2, h3⟩ <;> rcases h' with ⟨k1, k2⟩ | ⟨k1, k2, k3⟩
  · omega
  · exact absurd k2 (h2 M' k1.1 k1.2)
  · exact absurd h2 (k2 M h1.1 h1.2)
  · have e1 := h3 M' k1.1 k1.2 k2
    have e2 := k3 M h1.1 h1.2 h2
    rcases e1 with e1 | ⟨_, e1⟩ <;> rcases e2 with e2 | ⟨_, e2⟩ <;> omega
theorem meet_loop (N : Nat) {c d : Nat} (hc : c < 4) (hd : d < 4) : ∀ (m : Nat) (h : hS) (x M : Int) (fuel : Nat), KS ρ h Q F ks → WW h Q F.1.1 c d x → x + m = 1001 → m ≤ 2001 → (-10000000 ≤ M ∧ M ≤ 10000000) → zMt (zC F.1.1 c) (zC F.1.1 d) (-1000) (x - 1) M → ∃ M', zMt (zC F.1.1 c) (zC F.1.1 d) (-1000) 1000 M' ∧ KE ρ h Q F ks (iI M') 0 (f_K_meet_39 N (m + (fuel + 1)) h (Q 0) (iI M) (iI x)) := by
  intro m
  induction m with
  | zero =>
    intro h x M fuel K W hx hm hM hz
    refine ⟨M, by rw [show x - 1 = 1000 by omega] at hz; exact hz, ?_⟩
    rw [Nat.zero_add]
    unfold f_K_meet_39
    rw [if_pos (show (1000 : Int32) < iI x from (iI_lt (a := 1000) (by omega) (by omega)).mpr (by omega))]
    exact KE.ok K rfl
  | succ m ih =>
    intro h x M fuel K W hx hm hM hz
    obtain ⟨a9, _, _⟩ := K.w9
    obtain ⟨a10, _, _⟩ := K.w10
    have v1 := (K.2.2.1 c hc).2.val2 (x := x) (by omega) (by omega)
    have v2 := (K.2.2.1 d hd).2.val2 (x := x) (by omega) (by omega)
    obtain ⟨g1, g2, e1, e2, e3, e4, e5, K2, T2, m2, W2⟩ := both_go N K hc hd (by omega) W
    obtain ⟨z1, z2, z3⟩ := zMt_step hz (by omega)
    have step : ∀ (A : Int32), f_K_meet_80 N (f_K_meet_39 N (m + (fuel + 1))) h (Q 0) A (iI x) = f_K_meet_39 N (m + (fuel + 1)) g2 (Q 0) A (iI (x + 1)) := fun A => by
      unfold f_K_meet_80
      rw [gR_k K.x.1, K.ref (i := 0) (k := 9) (j := 9) (by decide), cv_k (show h_k h (Q 9) = 11 + 1 from a9), e1, cl_s, gR_k e3, e4, cv_k e5, e2, cl_s, bn_i, show (1 : Int32) = iI 1 from rfl, iI_add]
    have nx : ∀ M2 : Int, (-10000000 ≤ M2 ∧ M2 ≤ 10000000) → zMt (zC F.1.1 c) (zC F.1.1 d) (-1000) x M2 → ∃ M', zMt (zC F.1.1 c) (zC F.1.1 d) (-1000) 1000 M' ∧ KE ρ h Q F ks (iI M') 0 (f_K_meet_80 N (f_K_meet_39 N (m + (fuel + 1))) h (Q 0) (iI M2) (iI x)) := fun M2 hb hz2 => by
      rw [step]
      obtain ⟨M', q1, q2⟩ := ih g2 (x + 1) M2 fuel K2 W2 (by omega) (by omega) hb (by rw [show x + 1 - 1 = x by omega]; exact hz2)
      exact ⟨M', q1, KE.go T2 m2 q2⟩
    rw [show m + 1 + (fuel + 1) = (m + (fuel + 1)) + 1 by omega]
    unfold f_K_meet_39
    rw [if_neg (show ¬ (1000 : Int32) < iI x from fun z => absurd ((iI_lt (a := 1000) (by omega) (by omega)).mp z) (by omega)), gR_k K.x.1, K.ref (i := 0) (k := 9) (j := 9) (by decide), gJ_k (show h_k h (Q 9) = 11 + 1 from a9), W.1.2.2.2.2, gR_k K.x.1, K.ref (i := 0) (k := 10) (j := 10) (by decide), gJ_k (show h_k h (Q 10) = 11 + 1 from a10), W.2.2.2.2.2, jab_is (by omega), jab_is (by omega)]
    by_cases he : zVal (zC F.1.1 c) x = zVal (zC F.1.1 d) x
    · rw [if_pos ((lg_eq0 _ _).mpr (by rw [he]))]
      by_cases hle : (if M < 0 then -M else M) ≤ (if x < 0 then -x else x)
      · rw [if_pos ((iI_le (by split <;> omega) (by split <;> omega)).mpr hle)]
        exact nx M hM (z1 he hle)
      · rw [if_neg (fun z => hle ((iI_le (by split <;> omega) (by split <;> omega)).mp z))]
        exact nx x (by omega) (z2 he hle)
    · rw [if_neg (fun z => he ((lI_eq (by omega) (by omega)).mp ((lg_eq0 _ _).mp z)))]
      exact nx M hM (z3 he)
theorem meet_K (N : Nat) (hN : 20000 ≤ N) (K : KS ρ h Q F ks) {c d : Int} (hc : i32 c) (hd : i32 d) : (¬ ((0 ≤ c ∧ c ≤ 3) ∧ (0 ≤ d ∧ d ≤ 3)) → KE ρ h Q F ks (0 : Int32) 1 (f_K_meet N h (Q 0) (iI c) (iI d))) ∧ (((0 ≤ c ∧ c ≤ 3) ∧ (0 ≤ d ∧ d ≤ 3)) → ∀ M, zMt (zC F.1.1 c.toNat) (zC F.1.1 d.toNat) (-1000) 1000 M → KE ρ h Q F ks (iI M) 0 (f_K_meet N h (Q 0) (iI c) (iI d))) := by
  unfold f_K_meet f_K_meet_9 f_K_meet_24
  rw [show (-1000 : Int32) = iI (-1000) by decide]
  constructor
  · intro hn
    exact two_start N hN K hc hd (x := -1000) (by omega) _ _ (fun h6 => f_K_meet_39 N N h6 (Q 0) (-10000000 : Int32) (iI (-1000))) 0 (fun _ => rfl) (fun g c1 d1 _ _ => absurd ⟨c1, d1⟩ hn)
  · intro hy M hM
    refine two_start N hN K hc hd (x := -1000) (by omega) _ _ (fun h6 => f_K_meet_39 N N h6 (Q 0) (-10000000 : Int32) (iI (-1000))) 0 (fun q => absurd hy q) (fun g c1 d1 K1 W1 => ?_)
    obtain ⟨fuel, hfu⟩ : ∃ fuel, N = 2001 + (fuel + 1) := ⟨N - 2002, by omega⟩
    obtain ⟨M', q1, q2⟩ := meet_loop N (n4 c1).1 (n4 d1).1 2001 g (-1000) (-10000000) fuel K1 W1 (by omega) (by omega) (by omega) (Or.inl ⟨rfl, fun x h1 h2 => by omega⟩)
    rw [← hfu] at q2
    rw [zMt_un hM q1]
    have e : (-10000000 : Int32) = iI (-10000000) := by decide
    rw [e]
    exact q2
theorem jabl_is {z : Int} (hz : -9000000000000000000 ≤ z ∧ z ≤ 9000000000000000000) : jabl (lI z) = lI (if z < 0 then -z else z) := by
  unfold jabl
  by_cases h : 0 < z
  · rw [if_pos (show (0 : Int64) < lI z from (lI_lt (a := 0) (by omega) (by omega)).mpr h), if_neg (by omega)]
  · rw [if_neg (show ¬ (0 : Int64) < lI z from fun q => h ((lI_lt (a := 0) (by omega) (by omega)).mp q)), lI_neg]
    by_cases h2 : z < 0
    · rw [if_pos h2]
    · rw [if_neg h2, show z = 0 by omega]; rfl
theorem jmxl_is {a b : Int} (ha : -9000000000000000000 ≤ a ∧ a ≤ 9000000000000000000) (hb : -9000000000000000000 ≤ b ∧ b ≤ 9000000000000000000) : jmxl (lI a) (lI b) = lI (max a b) := by
  unfold jmxl
  by_cases h : b < a
  · rw [if_pos ((lI_lt (by omega) (by omega)).mpr h), show max a b = a by omega]
  · rw [if_neg (fun q => h ((lI_lt (by omega) (by omega)).mp q)), show max a b = b by omega]
theorem gap_loop (N : Nat) {c d : Nat} (hc : c < 4) (hd : d < 4) : ∀ (m : Nat) (h : hS) (x a : Int) (fuel : Nat), KS ρ h Q F ks → WW h Q F.1.1 c d x → x + m = 501 → m ≤ 1001 → (0 ≤ a ∧ a ≤ 1000000000) → KE ρ h Q F ks (lI (zGp (zC F.1.1 c) (zC F.1.1 d) m x a)) 0 (f_K_gap_37 N (m + (fuel + 1)) h (Q 0) (lI a) (iI x)) := by
  intro m
  induction m with
  | zero =>
    intro h x a fuel K W hx hm ha
    rw [Nat.zero_add]
    unfold f_K_gap_37
    rw [if_pos (show (500 : Int32) < iI x from (iI_lt (a := 500) (by omega) (by omega)).mpr (by omega)), zGp]
    exact KE.ok K rfl
  | succ m ih =>
    intro h x a fuel K W hx hm ha
    obtain ⟨a9, _, _⟩ := K.w9
    obtain ⟨a10, _, _⟩ := K.w10
    have v1 := (K.2.2.1 c hc).2.val2 (x := x) (by omega) (by omega)
    have v2 := (K.2.2.1 d hd).2.val2 (x := x) (by omega) (by omega)
    obtain ⟨g1, g2, e1, e2, e3, e4, e5, K2, T2, m2, W2⟩ := both_go N K hc hd (by omega) W
    rw [show m + 1 + (fuel + 1) = (m + (fuel + 1)) + 1 by omega]
    unfold f_K_gap_37
    rw [if_neg (show ¬ (500 : Int32) < iI x from fun z => absurd ((iI_lt (a := 500) (by omega) (by omega)).mp z) (by omega)), gR_k K.x.1, K.ref (i := 0) (k := 9) (j := 9) (by decide), gJ_k (show h_k h (Q 9) = 11 + 1 from a9), W.1.2.2.2.2, gR_k K.x.1, K.ref (i := 0) (k := 10) (j := 10) (by decide), gJ_k (show h_k h (Q 10) = 11 + 1 from a10), W.2.2.2.2.2, lI_sub, jabl_is (by omega), jmxl_is (by omega) (by split <;> omega), bn_i, gR_k K.x.1, K.ref (i := 0) (k := 9) (j := 9) (by decide), cv_k (show h_k h (Q 9) = 11 + 1 from a9), e1, cl_s, gR_k e3, e4, cv_k e5, e2, cl_s, bn_i, show (1 : Int32) = iI 1 from rfl, iI_add, zGp]
    exact KE.go T2 m2 (ih g2 (x + 1) _ fuel K2 W2 (by omega) (by omega) (by split <;> omega))
theorem gap_K (N : Nat) (hN : 20000 ≤ N) (K : KS ρ h Q F ks) {c d : Int} (hc : i32 c) (hd : i32 d) : KE ρ h Q F ks (if (0 ≤ c ∧ c ≤ 3) ∧ (0 ≤ d ∧ d ≤ 3) then lI (zGp (zC F.1.1 c.toNat) (zC F.1.1 d.toNat) 1001 (-500) 0) else 0) (if (0 ≤ c ∧ c ≤ 3) ∧ (0 ≤ d ∧ d ≤ 3) then 0 else 1) (f_K_gap N h (Q 0) (iI c) (iI d)) := by
  unfold f_K_gap f_K_gap_9 f_K_gap_24
  rw [show (-500 : Int32) = iI (-500) by decide]
  refine two_start N hN K hc hd (x := -500) (by omega) _ _ (fun h6 => f_K_gap_37 N N h6 (Q 0) (0 : Int64) (iI (-500))) 0 (fun q => if_neg q) (fun g c1 d1 K1 W1 => ?_)
  obtain ⟨fuel, hfu⟩ : ∃ fuel, N = 1001 + (fuel + 1) := ⟨N - 1002, by omega⟩
  have := gap_loop N (n4 c1).1 (n4 d1).1 1001 g (-500) 0 fuel K1 W1 (by omega) (by omega) (by omega)
  rw [← hfu] at this
  rw [if_pos ⟨c1, d1⟩, if_pos ⟨c1, d1⟩]
  exact this
end
