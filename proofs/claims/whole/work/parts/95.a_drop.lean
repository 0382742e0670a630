section
variable {ρ : Nat → Nat} {h : hS} {P : Nat → Nat} {ls : Nat} {S : StT} {lab : Nat → Nat}
def shT {α : Type} (F : Nat → α) (i j : Nat) : α := if j + 1 < i then F (j + 1) else F j
theorem shT_1 {α : Type} (F : Nat → α) : shT F 1 = F := by funext j; unfold shT; rw [if_neg (by omega)]
theorem shT_at {α : Type} (F : Nat → α) (i : Nat) : shT F i i = F i := by unfold shT; rw [if_neg (by omega)]
theorem shT_upd (F : Nat → Int32) {i : Nat} (hi : 1 ≤ i) : upd (shT F i) (i - 1) (F i) = shT F (i + 1) := by
  funext j
  unfold upd shT
  by_cases e : j = i - 1
  · rw [if_pos e, if_pos (by omega), e, show i - 1 + 1 = i by omega]
  · rw [if_neg e]
    by_cases e2 : j + 1 < i
    · rw [if_pos e2, if_pos (by omega)]
    · rw [if_neg e2, if_neg (by omega)]
theorem shT_up (F : Nat → Option Nat) {i : Nat} (hi : 1 ≤ i) : va_up (shT F i) (i - 1) (F i) = shT F (i + 1) := by
  funext j
  unfold va_up shT
  by_cases e : j = i - 1
  · rw [if_pos e, if_pos (by omega), e, show i - 1 + 1 = i by omega]
  · rw [if_neg e]
    by_cases e2 : j + 1 < i
    · rw [if_pos e2, if_pos (by omega)]
    · rw [if_neg e2, if_neg (by omega)]
/-- the two rows of acts -/
def rw2 (h : hS) (a b : Nat) (F : Nat → Int32) (G : Nat → Option Nat) : hS := s_R (s_w h a F) b G
theorem rw2_i (h : hS) (a b k : Nat) (F : Nat → Int32) (G : Nat → Option Nat) (v : Int32) : s_i (rw2 h a b F G) a k v = rw2 h a b (upd F k v) G := by
  show s_R (s_i (s_w h a F) a k v) b G = _
  rw [s_w_i]; rfl
theorem rw2_r (h : hS) (a b k : Nat) (F : Nat → Int32) (G : Nat → Option Nat) (v : Option Nat) : s_r (rw2 h a b F G) b k v = rw2 h a b F (va_up G k v) := s_r_sR _ _ _ _ _
theorem rw2_self (h : hS) (a b : Nat) : rw2 h a b (h_i h a) (h_r h b) = h := by
  unfold rw2
  rw [s_w_self]
  simp only [s_R, h_r]
  have : va_up h.2.2.2.2.1 b (h.2.2.2.2.1 b) = h.2.2.2.2.1 := by funext q; unfold va_up; split <;> simp_all
  rw [this]
theorem rw2_hi (h : hS) (a b x : Nat) (F : Nat → Int32) (G : Nat → Option Nat) : h_i (rw2 h a b F G) x = if x = a then F else h_i h x := rfl
theorem rw2_hr (h : hS) (a b x : Nat) (F : Nat → Int32) (G : Nat → Option Nat) : h_r (rw2 h a b F G) x = if x = b then G else h_r h x := rfl
theorem drop_loop (N : Nat) (X : SY ρ h P ls S lab) {a0 : Nat} (ha0 : h_k h a0 = 2 + 1) : ∀ (m i fuel : Nat), 1 ≤ i → i + m = 40 → f_State_dropOldestAct_8 N (m + (fuel + 1)) (rw2 h (P 33) (P 34) (shT (h_i h (P 33)) i) (shT (h_r h (P 34)) i)) (P 16) (some a0) (iI i) = some ((), s_i (rw2 h (P 33) (P 34) (shT (h_i h (P 33)) 40) (va_up (shT (h_r h (P 34)) 40) 39 (some a0))) (P 16) 3 (iI 39)) := by
  have f16 := X.f16
  have f33 := X.f33
  have f34 := X.f34
  have n16 : P 16 ≠ P 34 := fun e => by have h1 := f16.1; rw [e, f34.1] at h1; exact absurd h1 (by decide)
  have r1 : ∀ F G, h_r (rw2 h (P 33) (P 34) F G) (P 16) 1 = some (P 33) := fun F G => by rw [rw2_hr, if_neg n16]; exact X.ref (i := 16) (k := 1) (j := 33) (by decide)
  have r2 : ∀ F G, h_r (rw2 h (P 33) (P 34) F G) (P 16) 2 = some (P 34) := fun F G => by rw [rw2_hr, if_neg n16]; exact X.ref (i := 16) (k := 2) (j := 34) (by decide)
  have kk : ∀ F G, h_k (rw2 h (P 33) (P 34) F G) (P 16) = 7 + 1 := fun F G => f16.1
  intro m
  induction m with
  | zero =>
    intro i fuel h1 h2
    have e : i = 40 := by omega
    subst e
    rw [Nat.zero_add]
    unfold f_State_dropOldestAct_8
    rw [if_pos (show (40 : Int32) ≤ iI (40 : Nat) by decide), gR_k (kk _ _), r2, show (39 : Int32) = iI ((39 : Nat) : Int) from rfl, uR_i (h := rw2 h (P 33) (P 34) (shT (h_i h (P 33)) 40) (shT (h_r h (P 34)) 40)) f34.1 f34.2.2.1 (by omega) (by omega) (fun b hb => by injection hb with hb; subst hb; exact ha0), rw2_r, pI_k (kk _ _)]
    rfl
  | succ m ih =>
    intro i fuel h1 h2
    rw [show m + 1 + (fuel + 1) = (m + (fuel + 1)) + 1 by omega]
    unfold f_State_dropOldestAct_8
    have hm1 : iI i - (1 : Int32) = iI ((i - 1 : Nat) : Int) := by rw [show (1 : Int32) = iI 1 from rfl, iI_sub]; congr 1; omega
    rw [if_neg (show ¬ (40 : Int32) ≤ iI i from fun z => absurd ((iI_le (a := 40) (by omega) (by omega)).mp z) (by omega)), gR_k (kk _ _), r1, gR_k (kk _ _), r1, aI_iI (h := rw2 h (P 33) (P 34) (shT (h_i h (P 33)) i) (shT (h_r h (P 34)) i)) (z := (i : Int)) ⟨f33.1, f33.2.2.1⟩ (by omega) (by omega) (by omega), Int.toNat_natCast, rw2_hi, if_pos rfl, shT_at, hm1, uI_iI (h := rw2 h (P 33) (P 34) (shT (h_i h (P 33)) i) (shT (h_r h (P 34)) i)) (z := ((i - 1 : Nat) : Int)) ⟨f33.1, f33.2.2.1⟩ (by omega) (by omega) (by omega), Int.toNat_natCast, rw2_i, shT_upd _ h1, gR_k (kk _ _), r2, gR_k (kk _ _), r2, aR_i (h := rw2 h (P 33) (P 34) (shT (h_i h (P 33)) (i + 1)) (shT (h_r h (P 34)) i)) f34.1 f34.2.2.1 (show i < 40 by omega) (by omega), rw2_hr, if_pos rfl, shT_at, uR_i (h := rw2 h (P 33) (P 34) (shT (h_i h (P 33)) (i + 1)) (shT (h_r h (P 34)) i)) f34.1 f34.2.2.1 (show i - 1 < 40 by omega) (by omega) (fun b hb => by
      rcases X.2.2.2.1.2.2 i (by omega) with ⟨c1, c2⟩ | ⟨a', n', p', Y', c1, c2, c3⟩
      · rw [c1] at hb; cases hb
      · rw [c1] at hb; injection hb with hb; subst hb; exact c2.k), rw2_r, shT_up _ h1, bn_i, show (1 : Int32) = iI 1 from rfl, iI_add, show (i : Int) + 1 = ((i + 1 : Nat) : Int) by omega]
    exact ih (i + 1) fuel (by omega) (by omega)
theorem drop_is (N : Nat) (hN : 100 ≤ N) (X : SY ρ h P ls S lab) (hls : 100 ≤ ls) (hna : S.2.1 = 40) : ∃ g lab', f_State_dropOldestAct N h (P 16) = some ((), g) ∧ tr ρ h (rg ls) ρ g ∧ SY ρ g P ls (S.1, 39, (fun k => S.2.2.1 (k + 1)), S.2.2.2) lab' ∧ hm g = hm h ∧ pSt g (P 16) = pSt h (P 16) := by
  have f16 := X.f16
  have f33 := X.f33
  have f34 := X.f34
  have f35 := X.f35
  have f37 := X.f37
  have n16 : P 16 ≠ P 34 := fun e => by have h1 := f16.1; rw [e, f34.1] at h1; exact absurd h1 (by decide)
  have n32 : P 32 ≠ P 34 := X.1.2.2.2.2.2
  have m33 : P 33 ≠ P 16 := fun e => by have h1 := f16.1; rw [← e, f33.1] at h1; exact absurd h1 (by decide)
  have m35 : P 35 ≠ P 16 := fun e => by have h1 := f16.1; rw [← e, f35.1] at h1; exact absurd h1 (by decide)
  have m37 : P 37 ≠ P 16 := fun e => by have h1 := f16.1; rw [← e, f37.1] at h1; exact absurd h1 (by decide)
  have some_ : ∀ k, k < 40 → ∃ a n p Y, h_r h (P 34) k = some a ∧ CH ρ (lab k) h a n p Y ∧ n = (S.2.2.1 k).2.1 ∧ p = (S.2.2.1 k).2.2.1 ∧ Y = (S.2.2.1 k).2.2.2 := fun k hk => by
    rcases X.2.2.2.1.2.2 k hk with ⟨c1, c2⟩ | ⟨a', n', p', Y', c1, c2, c3⟩
    · omega
    · exact ⟨a', n', p', Y', c1, c2, c3 (by omega)⟩
  obtain ⟨a0, n0, p0, Y0, q1, q2, q3⟩ := some_ 0 (by omega)
  obtain ⟨fuel, hfu⟩ : ∃ fuel, N = 39 + (fuel + 1) := ⟨N - 40, by omega⟩
  have lp := drop_loop N X q2.k 39 1 fuel (by omega) (by omega)
  rw [shT_1, shT_1, rw2_self, ← hfu] at lp
  have tA : ∀ F G, tr ρ h (rg ls) ρ (rw2 h (P 33) (P 34) F G) := fun F G => ⟨Nat.le_refl _, fun x _ => ⟨rfl, rfl, rfl, fun hR => ⟨by rw [rw2_hi, if_neg (fun e => hR (by rw [e]; exact f33.2.1))], rfl, by rw [rw2_hr, if_neg (fun e => hR (by rw [e]; exact f34.2.1))]⟩⟩⟩
  have t : tr ρ h (rg ls) ρ (s_i (rw2 h (P 33) (P 34) (shT (h_i h (P 33)) 40) (va_up (shT (h_r h (P 34)) 40) 39 (some a0))) (P 16) 3 (iI 39)) := (tA _ _).trans (tr_si f16.2.1)
  have n9 : ¬ rg ls 9 := fun z => by have : 9 = ls := z; omega
  have l1 := X.2.2.2.1.1
  have l2 := X.2.2.2.1.2.1
  have nj : ∀ j, j < 40 → ¬ rg ls (lab j) := fun j hj z => by have h1 : lab j = ls := z; have := l2 j hj; omega
  have nc : ∀ c, ¬ rg ls (ls + 1 + c) := fun c z => by have : ls + 1 + c = ls := z; omega
  generalize hg : s_i (rw2 h (P 33) (P 34) (shT (h_i h (P 33)) 40) (va_up (shT (h_r h (P 34)) 40) 39 (some a0))) (P 16) 3 (iI 39) = g at *
  have gi : ∀ x, h_i g x = if x = P 16 then upd (h_i h (P 16)) 3 (iI 39) else if x = P 33 then shT (h_i h (P 33)) 40 else h_i h x := fun x => by
    rw [← hg, h_i_si, rw2_hi, rw2_hi, if_neg (show ¬ P 16 = P 33 from fun e => m33 e.symm)]
  have gr : ∀ x, h_r g x = if x = P 34 then va_up (shT (h_r h (P 34)) 40) 39 (some a0) else h_r h x := fun x => by
    rw [← hg, h_r_si, rw2_hr]
  have gj : ∀ x, h_j g x = h_j h x := fun x => by rw [← hg]; rfl
  have gr34 : ∀ k, k < 39 → h_r g (P 34) k = h_r h (P 34) (k + 1) := fun k hk => by
    rw [gr, if_pos rfl]; unfold va_up shT; rw [if_neg (by omega), if_pos (by omega)]
  have gr39 : h_r g (P 34) 39 = some a0 := by rw [gr, if_pos rfl]; unfold va_up; rw [if_pos rfl]
  have Y : SY ρ g P ls (S.1, 39, (fun k => S.2.2.1 (k + 1)), S.2.2.2) (fun k => if k < 39 then lab (k + 1) else lab 0) := by
    refine ⟨⟨X.1.1.keep t, fun e he => ?_, X.1.2.2⟩, ⟨?_, ?_⟩, fun c hc => (X.2.2.1 c hc).keep t n9 (nc c), ⟨fun j k hj hk e => ?_, fun j hj => ?_, fun k hk => ?_⟩, fun k hk => ?_, fun k hk => ?_, fun k hk => ?_⟩
    · have : P e.1 ≠ P 34 := by
        simp only [refS, List.mem_cons, List.not_mem_nil, or_false] at he
        rcases he with he | he | he | he | he | he | he | he | he | he <;> subst he <;> first | exact n16 | exact n32
      rw [gr, if_neg this]
      exact X.1.2.1 e he
    · rw [gi, if_pos rfl]; rfl
    · rw [gi, if_pos rfl]; unfold upd; rw [if_neg (by decide)]; exact X.2.1.2
    · simp only [] at e
      by_cases j9 : j < 39
      · rw [if_pos j9] at e
        by_cases k9 : k < 39
        · rw [if_pos k9] at e
          have := l1 _ _ (by omega) (by omega) e; omega
        · rw [if_neg k9] at e
          have := l1 _ _ (by omega) (by omega) e; omega
      · rw [if_neg j9] at e
        by_cases k9 : k < 39
        · rw [if_pos k9] at e
          have := l1 _ _ (by omega) (by omega) e; omega
        · omega
    · simp only []
      by_cases j9 : j < 39
      · rw [if_pos j9]; exact l2 _ (by omega)
      · rw [if_neg j9]; exact l2 _ (by omega)
    · simp only []
      by_cases k9 : k < 39
      · rw [if_pos k9]
        obtain ⟨a, n, p, Y, b1, b2, b3⟩ := some_ (k + 1) (by omega)
        exact Or.inr ⟨a, n, p, Y, by rw [gr34 k k9]; exact b1, b2.keep t n9 (nj _ (by omega)), fun _ => b3⟩
      · have e : k = 39 := by omega
        subst e
        rw [if_neg k9]
        exact Or.inr ⟨a0, n0, p0, Y0, gr39, q2.keep t n9 (nj _ (by omega)), fun z => by have z' : 39 < 39 := z; omega⟩
    · have hk' : k < 39 := hk
      rw [gi, if_neg m33, if_pos rfl]
      unfold shT
      rw [if_pos (by omega)]
      exact X.2.2.2.2.1 (k + 1) (by omega)
    · rw [gi, if_neg m35, if_neg (fun e => X.1.2.2.1 e.symm), gj]
      exact X.2.2.2.2.2.1 k hk
    · rw [gi, if_neg m37, if_neg (fun e => X.1.2.2.2.1 e.symm)]
      exact X.2.2.2.2.2.2 k hk
  have hmg : hm g = hm h := by rw [← hg]; rfl
  refine ⟨g, _, ?_, t, Y, hmg, ?_⟩
  · unfold f_State_dropOldestAct f_State_dropOldestAct_5
    have e0 : f_State_actChain N h (P 16) (0 : Int32) = some (some a0, h) := by
      unfold f_State_actChain f_State_actChain_22
      rw [gR_k f16.1, X.ref (i := 16) (k := 2) (j := 34) (by decide), show (0 : Int32) = iI ((0 : Nat) : Int) from rfl, aR_i f34.1 f34.2.2.1 (by omega) (by omega), q1, if_neg (by simp), gR_k f16.1, X.ref (i := 16) (k := 2) (j := 34) (by decide), aR_i f34.1 f34.2.2.1 (by omega) (by omega), q1]
    rw [cv_k f16.1, e0, cl_s]
    exact lp
  · rw [X.pst, Y.pst]
    congr 1
    · exact sumN_congr 4 (fun c hc => rch_keep (X.2.2.1 c hc) t (nc c))
    · rw [sumN_shift (fun k => rcO h (h_r h (P 34) k)) 39]
      show sumN (fun k => rcO g (h_r g (P 34) k)) 39 + rcO g (h_r g (P 34) 39) = _
      rw [gr39, ← q1, (X.2.2.2.1.2.2 0 (by omega)).rc t (nj 0 (by omega)), Nat.add_comm]
      congr 1
      exact sumN_congr 39 (fun k hk => by rw [gr34 k hk]; exact (X.2.2.2.1.2.2 (k + 1) (by omega)).rc t (nj _ (by omega)))
/-- an act: what was is kept, and the chain of the cost becomes another -/
theorem act_is (N : Nat) (hN : 100 ≤ N) (X : SY ρ h P ls S lab) (hls : 100 ≤ ls) (hna : S.2.1 ≤ 40) {c : Nat} (hc : c < 4) {l d : Nat} (hl : l < 100) {x : ChT} (D : CH ρ l h d x.1 x.2.1 x.2.2) : ∃ ρ' g lab', f_State_act N h (P 16) (iI c) (some d) = some ((), g) ∧ tr ρ h (fun q => ls ≤ q ∧ q < ls + 50) ρ' g ∧ SY ρ' g P ls (actS S c x) lab' ∧ hm g + pSt g (P 16) ≤ hm h + pSt h (P 16) := by
  unfold f_State_act actS
  rw [kcost_y N h (c := c) (by omega), cl_s, if_neg (show ¬ (1 : Int32) = (0 : Int32) by decide), gI_k X.f16.1, X.2.1.1]
  by_cases e : S.2.1 < 40
  · obtain ⟨ρ', g, a1, a2, a3, a4⟩ := act_13 N hN X hls e hc hl D
    rw [if_pos e, if_pos (show iI S.2.1 < (40 : Int32) from (iI_lt (b := 40) (by omega) (by omega)).mpr (by omega))]
    exact ⟨ρ', g, lab, a1, a2, a3, a4⟩
  · obtain ⟨g1, lab', b1, b2, b3, b4, b5⟩ := drop_is N hN X hls (by omega)
    have k1 : ∀ q, rg ls q → ls ≤ q ∧ q < ls + 50 := fun q z => by have : q = ls := z; omega
    have D1 : CH ρ l g1 d x.1 x.2.1 x.2.2 := D.keep b2 (fun z => by have : 9 = ls := z; omega) (fun z => by have : l = ls := z; omega)
    obtain ⟨ρ', g, a1, a2, a3, a4⟩ := act_13 N hN b3 hls (by show 39 < 40; omega) hc hl D1
    rw [if_neg e, if_neg (show ¬ iI S.2.1 < (40 : Int32) from fun z => e (by have := (iI_lt (b := 40) (by omega) (by omega)).mp z; omega)), cv_k X.f16.1, b1, cl_s]
    exact ⟨ρ', g, lab', a1, (b2.mono k1).trans a2, a3, by omega⟩
end
