def upC (C : Cs) (c : Nat) (x : ChT) : Cs := fun d => if d = c then x else C d
def upE (E : AcT) (k : Nat) (x : Nat × ChT) : AcT := fun j => if j = k then x else E j
section
variable {ρ : Nat → Nat} {h : hS} {P : Nat → Nat} {ls : Nat} {S : StT} {lab : Nat → Nat}
/-- an act's chain is written -/
theorem SY.chw (X : SY ρ h P ls S lab) (hls : 100 ≤ ls) {k : Nat} (hk : k < 40) {a : Nat} (ha : h_r h (P 34) k = some a) {ρ' : Nat → Nat} {g : hS} (t : tr ρ h (rg (lab k)) ρ' g) {x : ChT} (C : CH ρ' (lab k) g a x.1 x.2.1 x.2.2) (e : Nat) (he : k < S.2.1 → e = (S.2.2.1 k).1) : SY ρ' g P ls (S.1, S.2.1, upE S.2.2.1 k (e, x), S.2.2.2) lab ∧ pSt g (P 16) + rch h a = pSt h (P 16) + rch g a := by
  have hlk := X.2.2.2.1.2.1 k hk
  have l1 := X.2.2.2.1.1
  have l2 := X.2.2.2.1.2.1
  have n9 : ¬ rg (lab k) 9 := fun z => by have : 9 = lab k := z; omega
  have nl : ¬ rg (lab k) ls := fun z => by have : ls = lab k := z; omega
  have nc : ∀ c, c < 4 → ¬ rg (lab k) (ls + 1 + c) := fun c hc z => by have : ls + 1 + c = lab k := z; omega
  have nj : ∀ j, j < 40 → j ≠ k → ¬ rg (lab k) (lab j) := fun j hj hne z => hne (l1 j k hj hk z)
  have s16 := X.1.1.same t (e := (16, 8, ls, 0)) (by simp [fixS]) nl
  have s33 := X.1.1.same t (e := (33, 50, ls, 40)) (by simp [fixS]) nl
  have s34 := X.1.1.same t (e := (34, 62, ls, 40)) (by simp [fixS]) nl
  have s35 := X.1.1.same t (e := (35, 50, ls, 8)) (by simp [fixS]) nl
  have s36 := X.1.1.same t (e := (36, 51, ls, 8)) (by simp [fixS]) nl
  have s37 := X.1.1.same t (e := (37, 50, ls, 3)) (by simp [fixS]) nl
  simp only [] at s16 s33 s34 s35 s36 s37
  have Y : SY ρ' g P ls (S.1, S.2.1, upE S.2.2.1 k (e, x), S.2.2.2) lab := by
    obtain ⟨⟨f1, f2, f3⟩, b, c, ⟨_, _, l3⟩, d, f, i⟩ := X
    refine ⟨⟨f1.keep t, f2.keep f1 t (fun q hq => ?_), f3⟩, by rw [s16.1]; exact b, fun q hq => (c q hq).keep t n9 (nc q hq), ⟨l1, l2, fun j hj => ?_⟩, fun j hj => ?_, fun j hj => by rw [s35.1, s36.2.1]; exact f j hj, fun j hj => by rw [s37.1]; exact i j hj⟩
    · simp only [refS, List.mem_cons, List.not_mem_nil, or_false] at hq
      rcases hq with hq | hq | hq | hq | hq | hq | hq | hq | hq | hq <;> subst hq
      all_goals first | exact ⟨(16, 8, ls, 0), by simp [fixS], rfl, nl⟩ | exact ⟨(32, 62, ls, 4), by simp [fixS], rfl, nl⟩
    · by_cases ej : j = k
      · subst ej
        refine Or.inr ⟨a, x.1, x.2.1, x.2.2, by rw [s34.2.2]; exact ha, C, fun _ => ?_⟩
        simp [upE]
      · rcases l3 j hj with ⟨c1, c2⟩ | ⟨a', n, p, Y, c1, c2, c3⟩
        · exact Or.inl ⟨by rw [s34.2.2]; exact c1, c2⟩
        · refine Or.inr ⟨a', n, p, Y, by rw [s34.2.2]; exact c1, c2.keep t n9 (nj j hj ej), fun z => ?_⟩
          have := c3 z
          simp only [upE, if_neg ej]
          exact this
    · rw [s33.1, d j hj]
      simp only [upE]
      by_cases ej : j = k
      · subst ej; rw [if_pos rfl, he hj]
      · rw [if_neg ej]
  refine ⟨Y, ?_⟩
  rw [X.pst, Y.pst, sumN_congr 4 (fun c hc => rch_keep (X.2.2.1 c hc) t (nc c hc)), s34.2.2]
  have key := sumN_one (f := fun j => rcO h (h_r h (P 34) j)) (g := fun j => rcO g (h_r h (P 34) j)) (k := k) 40 hk (fun j hj hne => (X.2.2.2.1.2.2 j hj).rc t (nj j hj hne))
  rw [ha] at key
  have e1 : rcO h (some a) = rch h a := rfl
  have e2 : rcO g (some a) = rch g a := rfl
  rw [e1, e2] at key
  omega
/-- a cost's chain is written -/
theorem SY.ccw (X : SY ρ h P ls S lab) (hls : 100 ≤ ls) {c : Nat} (hc : c < 4) {ρ' : Nat → Nat} {g : hS} (t : tr ρ h (rg (ls + 1 + c)) ρ' g) {x : ChT} (C : CH ρ' (ls + 1 + c) g (P (40 + c)) x.1 x.2.1 x.2.2) : SY ρ' g P ls (upC S.1 c x, S.2) lab ∧ pSt g (P 16) + rch h (P (40 + c)) = pSt h (P 16) + rch g (P (40 + c)) := by
  have l1 := X.2.2.2.1.1
  have l2 := X.2.2.2.1.2.1
  have n9 : ¬ rg (ls + 1 + c) 9 := fun z => by have : 9 = ls + 1 + c := z; omega
  have nl : ¬ rg (ls + 1 + c) ls := fun z => by have : ls = ls + 1 + c := z; omega
  have nc : ∀ d, d < 4 → d ≠ c → ¬ rg (ls + 1 + c) (ls + 1 + d) := fun d hd hne z => by have : ls + 1 + d = ls + 1 + c := z; omega
  have nj : ∀ j, j < 40 → ¬ rg (ls + 1 + c) (lab j) := fun j hj z => by have h1 : lab j = ls + 1 + c := z; have := l2 j hj; omega
  have s16 := X.1.1.same t (e := (16, 8, ls, 0)) (by simp [fixS]) nl
  have s33 := X.1.1.same t (e := (33, 50, ls, 40)) (by simp [fixS]) nl
  have s34 := X.1.1.same t (e := (34, 62, ls, 40)) (by simp [fixS]) nl
  have s35 := X.1.1.same t (e := (35, 50, ls, 8)) (by simp [fixS]) nl
  have s36 := X.1.1.same t (e := (36, 51, ls, 8)) (by simp [fixS]) nl
  have s37 := X.1.1.same t (e := (37, 50, ls, 3)) (by simp [fixS]) nl
  simp only [] at s16 s33 s34 s35 s36 s37
  have Y : SY ρ' g P ls (upC S.1 c x, S.2) lab := by
    obtain ⟨⟨f1, f2, f3⟩, b, ch, ⟨_, _, l3⟩, d, f, i⟩ := X
    refine ⟨⟨f1.keep t, f2.keep f1 t (fun q hq => ?_), f3⟩, by rw [s16.1]; exact b, fun q hq => ?_, ⟨l1, l2, fun j hj => (l3 j hj).keep t s34.2.2 n9 (nj j hj)⟩, fun j hj => by rw [s33.1]; exact d j hj, fun j hj => by rw [s35.1, s36.2.1]; exact f j hj, fun j hj => by rw [s37.1]; exact i j hj⟩
    · simp only [refS, List.mem_cons, List.not_mem_nil, or_false] at hq
      rcases hq with hq | hq | hq | hq | hq | hq | hq | hq | hq | hq <;> subst hq
      all_goals first | exact ⟨(16, 8, ls, 0), by simp [fixS], rfl, nl⟩ | exact ⟨(32, 62, ls, 4), by simp [fixS], rfl, nl⟩
    · by_cases e : q = c
      · subst e
        simp only [upC, if_pos]
        exact C
      · simp only [upC, if_neg e]
        exact (ch q hq).keep t n9 (nc q hq e)
  refine ⟨Y, ?_⟩
  rw [X.pst, Y.pst, s34.2.2, sumN_congr 40 (fun k hk => (X.2.2.2.1.2.2 k hk).rc t (nj k hk))]
  have key := sumN_one (f := fun d => rch h (P (40 + d))) (g := fun d => rch g (P (40 + d))) (k := c) 4 hc (fun d hd hne => rch_keep (X.2.2.1 d hd) t (nc d hd hne))
  omega
/-- what an act makes of a state: what was is kept, the oldest of 40 is lost -/
def actS (S : StT) (c : Nat) (x : ChT) : StT := if S.2.1 < 40 then (upC S.1 c x, S.2.1 + 1, upE S.2.2.1 S.2.1 (c, S.1 c), S.2.2.2) else (upC S.1 c x, 40, upE (fun k => S.2.2.1 (k + 1)) 39 (c, S.1 c), S.2.2.2)
theorem act_13 (N : Nat) (hN : 100 ≤ N) (X : SY ρ h P ls S lab) (hls : 100 ≤ ls) (hna : S.2.1 < 40) {c : Nat} (hc : c < 4) {l d : Nat} (hl : l < 100) {x : ChT} (D : CH ρ l h d x.1 x.2.1 x.2.2) : ∃ ρ' g, f_State_act_21 N h (P 16) (iI c) (some d) = some ((), g) ∧ tr ρ h (fun q => ls ≤ q ∧ q < ls + 50) ρ' g ∧ SY ρ' g P ls (upC S.1 c x, S.2.1 + 1, upE S.2.2.1 S.2.1 (c, S.1 c), S.2.2.2) lab ∧ hm g + pSt g (P 16) ≤ hm h + pSt h (P 16) := by
  have f16 := X.f16
  have f33 := X.f33
  have l2 := X.2.2.2.1.2.1
  have ne1 : P 16 ≠ P 33 := fun e => by have h1 := f16.1; rw [e, f33.1] at h1; exact absurd h1 (by decide)
  -- the cost of the act
  have t1 : tr ρ h (rg ls) ρ (s_i h (P 33) S.2.1 (iI c)) := tr_si f33.2.1
  obtain ⟨X1, p1⟩ := X.wi hls (a := P 33) (k := S.2.1) (v := iI c) (S' := S) f33.2.1 rfl X.2.2.2.1.2.2 (by rw [if_neg ne1]; exact X.2.1.1) (by rw [if_neg ne1]; exact X.2.1.2) (fun j hj => by rw [if_pos rfl]; unfold upd; rw [if_neg (by omega)]; exact X.2.2.2.2.1 j hj) (fun j hj => by rw [if_neg (fun e => X.1.2.2.1 e.symm)]; exact X.2.2.2.2.2.1 j hj) (fun j hj => by rw [if_neg (fun e => X.1.2.2.2.1 e.symm)]; exact X.2.2.2.2.2.2 j hj)
  have v1 : h_i (s_i h (P 33) S.2.1 (iI c)) (P 33) S.2.1 = iI c := by rw [h_i_si, if_pos rfl]; unfold upd; rw [if_pos rfl]
  have D1 : CH ρ l (s_i h (P 33) S.2.1 (iI c)) d x.1 x.2.1 x.2.2 := D.keep t1 (fun z => by have : 9 = ls := z; omega) (fun z => by have : l = ls := z; omega)
  have m1 : hm (s_i h (P 33) S.2.1 (iI c)) = hm h := rfl
  generalize hg1 : s_i h (P 33) S.2.1 (iI c) = g1 at *
  -- its chain
  obtain ⟨ρ2, g2, a, n, p, Y, a1, a2, a3, a4, a5, a6, a7, a8, _⟩ := actChain_is N X1 hls hna
  have D2 : CH ρ2 l g2 d x.1 x.2.1 x.2.2 := D1.keep a2 (fun z => by have : 9 = ls := z; omega) (fun z => by have : l = ls := z; omega)
  have v2 : h_i g2 (P 33) S.2.1 = iI c := by rw [a8 _ X1.f33.2.2.2]; exact v1
  -- what was
  have hlk := l2 S.2.1 hna
  have Cc := a3.2.2.1 c hc
  obtain ⟨ρ3, g3, b1, b2, b3, b4⟩ := chtake_is N hN (show lab S.2.1 ≠ 9 by omega) a5 (show ls + 1 + c ≠ lab S.2.1 by omega) Cc
  obtain ⟨X3, p3⟩ := a3.chw hls hna a4 b2 (x := S.1 c) b3 c (fun z => absurd z (Nat.lt_irrefl _))
  have D3 : CH ρ3 l g3 d x.1 x.2.1 x.2.2 := D2.keep b2 (fun z => by have : 9 = lab S.2.1 := z; omega) (fun z => by have : l = lab S.2.1 := z; omega)
  have v3 : h_i g3 (P 33) S.2.1 = iI c := by
    obtain ⟨c1, c2, c3, c4⟩ := b2.2 (P 33) a3.f33.2.2.2
    rw [(c4 (by rw [a3.f33.2.1]; intro z; have : ls = lab S.2.1 := z; omega)).1]; exact v2
  have r3 : h_r g3 (P 34) S.2.1 = some a := by
    obtain ⟨c1, c2, c3, c4⟩ := b2.2 (P 34) a3.f34.2.2.2
    rw [(c4 (by rw [a3.f34.2.1]; intro z; have : ls = lab S.2.1 := z; omega)).2.2]; exact a4
  -- one act more
  have f16' := X3.f16
  have f33' := X3.f33
  have f35' := X3.f35
  have f37' := X3.f37
  have ne2 : P 33 ≠ P 16 := fun e => ne1 e.symm
  have ne3 : P 35 ≠ P 16 := fun e => by have h1 := f16'.1; rw [← e, f35'.1] at h1; exact absurd h1 (by decide)
  have ne4 : P 37 ≠ P 16 := fun e => by have h1 := f16'.1; rw [← e, f37'.1] at h1; exact absurd h1 (by decide)
  have t4 : tr ρ3 g3 (rg ls) ρ3 (s_i g3 (P 16) 3 (iI ((S.2.1 + 1 : Nat) : Int))) := tr_si f16'.2.1
  obtain ⟨X4, p4⟩ := X3.wi hls (a := P 16) (k := 3) (v := iI ((S.2.1 + 1 : Nat) : Int)) (S' := (S.1, S.2.1 + 1, upE S.2.2.1 S.2.1 (c, S.1 c), S.2.2.2)) f16'.2.1 rfl (fun k hk => by
      by_cases e : k = S.2.1
      · subst e
        exact Or.inr ⟨a, _, _, _, r3, b3, fun _ => by simp [upE]⟩
      · rcases X3.2.2.2.1.2.2 k hk with ⟨c1, c2⟩ | ⟨a', n', p', Y', c1, c2, c3⟩
        · have c2' : S.2.1 ≤ k := c2
          exact Or.inl ⟨c1, by show S.2.1 + 1 ≤ k; omega⟩
        · exact Or.inr ⟨a', n', p', Y', c1, c2, fun z => c3 (by have z' : k < S.2.1 + 1 := z; show k < S.2.1; omega)⟩)
    (by rw [if_pos rfl]; unfold upd; rw [if_pos rfl]) (by rw [if_pos rfl]; unfold upd; rw [if_neg (by decide)]; exact X3.2.1.2) (fun j hj => by
      rw [if_neg ne2]
      have hj' : j < S.2.1 + 1 := hj
      by_cases e : j = S.2.1
      · subst e; rw [v3]; simp [upE]
      · exact X3.2.2.2.2.1 j (by show j < S.2.1; omega)) (fun j hj => by rw [if_neg ne3]; exact X3.2.2.2.2.2.1 j hj) (fun j hj => by rw [if_neg ne4]; exact X3.2.2.2.2.2.2 j hj)
  have D4 : CH ρ3 l (s_i g3 (P 16) 3 (iI ((S.2.1 + 1 : Nat) : Int))) d x.1 x.2.1 x.2.2 := D3.keep t4 (fun z => by have : 9 = ls := z; omega) (fun z => by have : l = ls := z; omega)
  have m4 : hm (s_i g3 (P 16) 3 (iI ((S.2.1 + 1 : Nat) : Int))) = hm g3 := rfl
  have e3 : h_i g3 (P 16) 3 = iI S.2.1 := X3.2.1.1
  generalize hg4 : s_i g3 (P 16) 3 (iI ((S.2.1 + 1 : Nat) : Int)) = g4 at *
  -- what is now
  have C4 := X4.2.2.1 c hc
  obtain ⟨ρ5, g5, d1, d2, d3, d4⟩ := chtake_is N hN (show ls + 1 + c ≠ 9 by omega) C4 (show l ≠ ls + 1 + c by omega) D4
  obtain ⟨X5, p5⟩ := X4.ccw hls hc d2 (x := x) d3
  refine ⟨ρ5, g5, ?_, ?_, X5, by omega⟩
  · unfold f_State_act_21 f_State_act_39 f_State_act_48 f_State_act_68
    have hci : (c : Int) < 4 := by omega
    rw [gR_k f16.1, X.ref (i := 16) (k := 1) (j := 33) (by decide), gI_k f16.1, X.2.1.1, uI_iI (z := (S.2.1 : Int)) ⟨f33.1, f33.2.2.1⟩ (by omega) (by omega) (by omega), Int.toNat_natCast, hg1, gI_k X1.f16.1, X1.2.1.1, cv_k X1.f16.1, a1, cl_s, gR_k a3.f16.1, a3.ref (i := 16) (k := 0) (j := 32) (by decide), aR_i a3.f32.1 a3.f32.2.2.1 hc (by omega), a3.chr hc, cv_k a5.k, b1, cl_s, gI_k f16'.1, e3, pI_k f16'.1, show iI S.2.1 + (1 : Int32) = iI ((S.2.1 + 1 : Nat) : Int) by rw [show (1 : Int32) = iI 1 from rfl, iI_add]; rfl, hg4, gR_k X4.f16.1, X4.ref (i := 16) (k := 0) (j := 32) (by decide), aR_i X4.f32.1 X4.f32.2.2.1 hc (by omega), X4.chr hc, cv_k C4.k, d1, cl_s]
  · have k1 : ∀ q, rg ls q → ls ≤ q ∧ q < ls + 50 := fun q z => by have : q = ls := z; omega
    have k2 : ∀ q, rg (lab S.2.1) q → ls ≤ q ∧ q < ls + 50 := fun q z => by have : q = lab S.2.1 := z; omega
    have k3 : ∀ q, rg (ls + 1 + c) q → ls ≤ q ∧ q < ls + 50 := fun q z => by have : q = ls + 1 + c := z; omega
    exact ((((t1.mono k1).trans (a2.mono k1)).trans (b2.mono k2)).trans (t4.mono k1)).trans (d2.mono k3)
end
