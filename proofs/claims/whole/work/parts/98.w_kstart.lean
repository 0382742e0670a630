/-! THE CLASS AT ITS START -/
def qK (X n : Nat) : Nat := if n = 0 then X else if n = 3 then X + 2 else if n = 4 then X + 8 else if n = 5 then X + 17 else if n = 6 then X + 19 else if n = 7 then X + 24 else if n = 9 then X + 37 else if n = 10 then X + 38 else if n = 11 then X + 25 else if n = 12 then X + 26 else if n = 13 then X + 27 else if n = 14 then X + 28 else if n = 15 then X + 39 else if n = 20 then X + 29 else if n = 21 then X + 31 else if n = 22 then X + 33 else if n = 23 then X + 35 else if n = 24 then X + 13 else if n = 25 then X + 15 else if n = 26 then X + 22 else if n = 27 then X + 23 else if n = 28 then X + 3 else if n = 29 then X + 4 else if n = 30 then X + 5 else if n = 31 then X + 6 else pS (X + 41) n
def F00 : FT := (S00, none, (0, fun _ => 0), -1)
section
variable {ρ : Nat → Nat} {h : hS} {P Q : Nat → Nat} {ls : Nat} {S : StT}
theorem SX.ag (X : SX ρ h P ls S) (hq : ∀ n, (n = 16 ∨ (32 ≤ n ∧ n ≤ 37) ∨ (40 ≤ n ∧ n ≤ 43)) → Q n = P n) : SX ρ h Q ls S := by
  obtain ⟨⟨f1, f2, f3⟩, q1, q2, ⟨lab, l1, l2, l3⟩, q4, q5, q6⟩ := X
  have i1 : ∀ e ∈ fixS ls, e.1 = 16 ∨ (32 ≤ e.1 ∧ e.1 ≤ 37) ∨ (40 ≤ e.1 ∧ e.1 ≤ 43) := fun e he => by
    simp only [fixS, List.mem_cons, List.not_mem_nil, or_false] at he
    rcases he with he | he | he | he | he | he | he | he | he | he | he <;> subst he <;> simp
  have i2 : ∀ e ∈ refS, (e.1 = 16 ∨ (32 ≤ e.1 ∧ e.1 ≤ 37) ∨ (40 ≤ e.1 ∧ e.1 ≤ 43)) ∧ (e.2.2 = 16 ∨ (32 ≤ e.2.2 ∧ e.2.2 ≤ 37) ∨ (40 ≤ e.2.2 ∧ e.2.2 ≤ 43)) := by decide
  refine ⟨⟨fun e he => by rw [hq e.1 (i1 e he)]; exact f1 e he, fun e he => by rw [hq e.1 (i2 e he).1, hq e.2.2 (i2 e he).2]; exact f2 e he, ?_⟩, ?_, fun c hc => ?_, ⟨lab, l1, l2, fun k hk => ?_⟩, fun k hk => ?_, fun k hk => ?_, fun k hk => ?_⟩
  · rw [hq 33 (by omega), hq 35 (by omega), hq 37 (by omega), hq 32 (by omega), hq 34 (by omega)]; exact f3
  · rw [hq 16 (by omega)]; exact q1
  · rw [hq (40 + c) (by omega)]; exact q2 c hc
  · rw [hq 34 (by omega)]; exact l3 k hk
  · rw [hq 33 (by omega)]; exact q4 k hk
  · rw [hq 35 (by omega), hq 36 (by omega)]; exact q5 k hk
  · rw [hq 37 (by omega)]; exact q6 k hk
end
set_option maxRecDepth 20000 in
set_option maxHeartbeats 4000000 in
theorem kstart_is (N : Nat) (hN : 20000 ≤ N) (ρ0 : Nat → Nat) (h0 : hS) : ∃ ρ g, f_K_init N (nw h0 13 0 18) (h_x h0) = some ((), g) ∧ KS ρ g (qK (h_x h0)) F00 [] ∧ (∀ R, tr ρ0 h0 R ρ g) ∧ hm g = hm h0 + 1276 ∧ kpt g (qK (h_x h0)) = 52676 := by
  obtain ⟨X, hX⟩ : ∃ X, X = h_x h0 := ⟨_, rfl⟩
  suffices z : PB (fun ρ g => KS ρ g (qK (h_x h0)) F00 [] ∧ (∀ R, tr ρ0 h0 R ρ g) ∧ hm g = hm h0 + 1276 ∧ kpt g (qK (h_x h0)) = 52676) (f_K_init N (nw h0 13 0 18) (h_x h0)) from z
  refine kinit_book N (by omega) ρ0 h0 (fun ρ g B => ?_)
  rw [← hX] at B ⊢
  have x39 : h_x g = X + 39 := B.2.2.2.1.1
  have mg : hm g = hm h0 + 934 := B.2.2.2.1.2
  obtain ⟨g1, b1, b2, b3, b4, b5, b6⟩ := chnew_is N ρ g 19 (fun _ => (0, 0, 0)) (fun _ _ => 0)
  have fxg := B.1.1
  have rfg := B.1.2.1
  have k0 := B.k (i := 0) (kd := 13) (l := 17) (n := 0) (by decide)
  have tF := b2 (fun _ => False)
  have d0 : h_n g1 (h_x g) = 0 := by
    have q := (mo_Chain_init N (nw g 3 0 2) (h_x g) _ _ b1).2.2 (h_x g) (Nat.lt_succ_self _)
    rw [q.2, n_nw, if_pos rfl]
  obtain ⟨ρ1, hρ1⟩ : ∃ ρ1, ρ1 = ext ρ g 19 := ⟨_, rfl⟩
  rw [← hρ1] at b2 b3 tF
  have l0 : ρ1 X = 17 := by
    have q := fxg (0, 13, 17, 0) (by decide)
    have q2 : ρ X = 17 := q.2.1
    rw [(tF.2 X (by omega)).2.2.1]; exact q2
  obtain ⟨g2, hg2⟩ : ∃ g2, g2 = s_r g1 X 15 (some (h_x g)) := ⟨_, rfl⟩
  have t2 : tr ρ1 g1 (rg 17) ρ1 g2 := by rw [hg2]; exact tr_sr l0
  have x2 : h_x g2 = X + 41 := by rw [hg2]; show h_x g1 = _; omega
  have m2 : hm g2 = hm h0 + 962 := by rw [hg2]; show hm g1 = _; omega
  obtain ⟨ρ3, g3, c1, c2, c3, c4, c5⟩ := stnew_is N (by omega) ρ1 g2 (ls := 100) (by omega)
  have tF3 := c2 (fun _ => False)
  have l3 : ρ3 X = 17 := by rw [(tF3.2 X (by omega)).2.2.1]; exact l0
  obtain ⟨g4, hg4⟩ : ∃ g4, g4 = s_r g3 X 16 (some (h_x g2)) := ⟨_, rfl⟩
  obtain ⟨g5, hg5⟩ : ∃ g5, g5 = s_r g4 X 17 none := ⟨_, rfl⟩
  have t4 : tr ρ3 g3 (rg 17) ρ3 g5 := by rw [hg5, hg4]; exact (tr_sr l3).trans (tr_sr l3)
  have x5 : h_x g5 = h_x g3 := by rw [hg5, hg4]; rfl
  have hx3 : h_x g2 ≤ h_x g3 := tF3.1
  -- cells as they were
  have same : ∀ a, a < X + 39 → h_k g5 a = h_k g a ∧ h_n g5 a = h_n g a ∧ ρ3 a = ρ a ∧ h_i g5 a = h_i g a ∧ h_j g5 a = h_j g a ∧ (a ≠ X → h_r g5 a = h_r g a) := fun a ha => by
    obtain ⟨u1, u2, u3, u4⟩ := tF.2 a (by omega)
    obtain ⟨v1, v2, v3, v4⟩ := tF3.2 a (by omega)
    obtain ⟨u5, u6, u7⟩ := u4 (fun z => z)
    obtain ⟨v5, v6, v7⟩ := v4 (fun z => z)
    have w : h_k g2 a = h_k g1 a ∧ h_n g2 a = h_n g1 a ∧ h_i g2 a = h_i g1 a ∧ h_j g2 a = h_j g1 a ∧ (a ≠ X → h_r g2 a = h_r g1 a) := by
      rw [hg2]; exact ⟨rfl, rfl, rfl, rfl, fun q => by rw [h_r_sr, if_neg q]⟩
    have y : h_k g5 a = h_k g3 a ∧ h_n g5 a = h_n g3 a ∧ h_i g5 a = h_i g3 a ∧ h_j g5 a = h_j g3 a ∧ (a ≠ X → h_r g5 a = h_r g3 a) := by
      rw [hg5, hg4]; exact ⟨rfl, rfl, rfl, rfl, fun q => by rw [h_r_sr, if_neg q, h_r_sr, if_neg q]⟩
    exact ⟨y.1.trans (v1.trans (w.1.trans u1)), y.2.1.trans (v2.trans (w.2.1.trans u2)), v3.trans u3, y.2.2.1.trans (v5.trans (w.2.2.1.trans u5)), y.2.2.2.1.trans (v6.trans (w.2.2.2.1.trans u6)), fun q => (y.2.2.2.2 q).trans (v7.trans ((w.2.2.2.2 q).trans u7))⟩
  have r5 : h_r g5 X = va_up (va_up (va_up (h_r g X) 15 (some (X + 39))) 16 (some (X + 41))) 17 none := by
    rw [hg5, h_r_sr, if_pos rfl, hg4, h_r_sr, if_pos rfl, ((tF3.2 X (by omega)).2.2.2 (fun z => z)).2.2, hg2, h_r_sr, if_pos rfl, ((tF.2 X (by omega)).2.2.2 (fun z => z)).2.2, ← hg2, x2, x39]
  have fx : ∀ i kd l n, (i, kd, l, n) ∈ LKc → h_k g5 (X + i) = kd ∧ ρ3 (X + i) = l ∧ h_n g5 (X + i) = n ∧ X + i < h_x g5 := fun i kd l n hi => by
    obtain ⟨q1, q2, q3, q4⟩ := fxg _ hi
    have q4' : X + i < h_x g := q4
    obtain ⟨s1, s2, s3, _⟩ := same (X + i) (by omega)
    exact ⟨s1.trans q1, s3.trans q2, s2.trans q3, by omega⟩
  have rf : ∀ i k j, (i, k, j) ∈ RKc → i ≠ 0 → h_r g5 (X + i) k = some (X + j) := fun i k j hi h0 => by
    have q := rfg _ hi
    have q1 := B.1.2.2 _ hi
    have q1' : i < 39 := q1
    rw [(same (X + i) (by omega)).2.2.2.2.2 (by omega)]
    exact q
  have r0 : ∀ k j, (0, k, j) ∈ RKc → k ≠ 15 → k ≠ 16 → k ≠ 17 → h_r g5 X k = some (X + j) := fun k j hi h1 h2 h3 => by
    have q : h_r g X k = some (X + j) := rfg _ hi
    rw [r5]
    unfold va_up
    rw [if_neg h3, if_neg h2, if_neg h1]
    exact q
  have zi5 : ∀ i, 0 < i → i < 39 → i ≠ 8 → h_i g5 (X + i) = (fun _ => 0) ∧ h_j g5 (X + i) = fun _ => 0 := fun i h1 h2 h3 => by
    obtain ⟨_, _, _, s4, s5, _⟩ := same (X + i) (by omega)
    obtain ⟨z1, z2⟩ := B.2.1 (X + i) (by omega) (by omega)
    exact ⟨s4.trans (z1 (by omega)), s5.trans z2⟩
  have i0 : h_i g5 X = upd (upd (upd (fun _ => 0) 1 0) 2 (-1)) 8 0 := (same X (by omega)).2.2.2.1.trans B.2.2.1.1
  have cb : ∀ c l, (c, 4, l, 0) ∈ LKc → (c + 1, 50, l, 0) ∈ LKc → (c, 1, c + 1) ∈ RKc → c ≠ 0 → CB ρ3 l g5 (X + c) ∧ capR g5 (X + c) = 0 := fun c l h1 h2 h3 h4 => by
    obtain ⟨a1, a2, a3, a4⟩ := fx _ _ _ _ h1
    obtain ⟨e1, e2, e3, e4⟩ := fx _ _ _ _ h2
    have r := rf _ _ _ h3 h4
    exact ⟨⟨X + (c + 1), ⟨a1, a2, a4⟩, r, e1, e2, e4, by rw [e3]; omega⟩, by rw [capR_of r, e3]⟩
  have cb9 := cb 9 2 (by decide) (by decide) (by decide) (by decide)
  have cb11 := cb 11 3 (by decide) (by decide) (by decide) (by decide)
  have cb13 := cb 13 4 (by decide) (by decide) (by decide) (by decide)
  have cb15 := cb 15 5 (by decide) (by decide) (by decide) (by decide)
  have BO5 : BO ρ3 g5 (X + 8) (X + 13) (X + 15) (X + 9) (X + 11) 2 3 := by
    obtain ⟨a1, a2, a3, a4⟩ := fx 8 2 1 0 (by decide)
    exact ⟨⟨a1, a2, a4⟩, ⟨rf 8 0 9 (by decide) (by decide), rf 8 1 11 (by decide) (by decide), rf 8 2 13 (by decide) (by decide), rf 8 3 15 (by decide) (by decide)⟩, Or.inl ⟨rfl, rfl⟩⟩
  have cz : ∀ c l, (c, 4, l, 0) ∈ LKc → (c + 1, 50, l, 0) ∈ LKc → (c, 1, c + 1) ∈ RKc → 9 ≤ c → CZ ρ3 l g5 (X + c) (fun _ => 0) := fun c l h1 h2 h3 h4 => by
    obtain ⟨a1, a2, a3, a4⟩ := fx _ _ _ _ h1
    obtain ⟨e1, e2, e3, e4⟩ := fx _ _ _ _ h2
    have hc : c < 39 := by
      have q4 : X + c < h_x g := (fxg _ h1).2.2.2
      omega
    obtain ⟨z1, z2⟩ := zi5 c (by omega) hc (by omega)
    refine ⟨?_, zInv_0⟩
    rw [zK_z, zLeast_z]
    refine ⟨X + (c + 1), ⟨a1, a2, a4⟩, ⟨rf _ _ _ h3 (by omega), e1, e2, e4, by rw [e3]; omega, by rw [e3]; exact Nat.le_refl _⟩, ⟨by rw [z1]; rfl, by rw [z1]; rfl, by rw [z1]; rfl, by rw [z2]; rfl⟩, fun i hi => by simp at hi, cuOk_0⟩
  have t1F : ∀ R, tr ρ0 h0 R ρ3 g5 := fun R => by
    have q := (((B.2.2.2.2.2.2 R).trans (b2 R)))
    have q2 : tr ρ0 h0 R ρ1 g2 := by rw [hg2]; exact q.nr (by omega)
    have q3 := q2.trans (c2 R)
    rw [hg5, hg4]
    exact (q3.nr (by omega)).nr (by omega)
  have ch5 : CH ρ3 19 g5 (X + 39) 0 (fun _ => (0, 0, 0)) (fun _ _ => 0) := by
    have q := b3.keep t2 (fun z => by have : (9 : Nat) = 17 := z; omega) (fun z => by have : (19 : Nat) = 17 := z; omega)
    have q2 := q.keep tF3 (fun z => z) (fun z => z)
    have q3 := q2.keep t4 (fun z => by have : (9 : Nat) = 17 := z; omega) (fun z => by have : (19 : Nat) = 17 := z; omega)
    rw [x39] at q3
    exact q3
  have rc5 : rch g5 (X + 39) = 53 := by
    have q := b3.keep t2 (fun z => by have : (9 : Nat) = 17 := z; omega) (fun z => by have : (19 : Nat) = 17 := z; omega)
    have q2 := q.keep tF3 (fun z => z) (fun z => z)
    rw [← x39, rch_keep q2 t4 (fun z => by have : (19 : Nat) = 17 := z; omega), rch_keep q tF3 (fun z => z), rch_keep b3 t2 (fun z => by have : (19 : Nat) = 17 := z; omega), b5]
  have n39 : h_n g5 (X + 39) = 0 := by
    rw [(t4.2 (X + 39) (by omega)).2.1, (tF3.2 (X + 39) (by omega)).2.1, (t2.2 (X + 39) (by omega)).2.1, ← x39, d0]
  have Y5 := c3.keep t4 (fun z => by have : (9 : Nat) = 17 := z; omega) (fun q h1 h2 z => by have : q = 17 := z; omega)
  have p5 : pSt g5 (pS (h_x g2) 16) = pSt g3 (pS (h_x g2) 16) := c3.pk t4 (fun z => by have : (9 : Nat) = 17 := z; omega) (fun q h1 h2 z => by have : q = 17 := z; omega)
  have SX5 : SX ρ3 g5 (qK X) 100 S00 := by
    have q := Y5.x
    rw [x2] at q
    refine q.ag (fun n hn => ?_)
    rcases hn with e | e | e
    · subst e; rfl
    · rcases (show n = 32 ∨ n = 33 ∨ n = 34 ∨ n = 35 ∨ n = 36 ∨ n = 37 by omega) with e | e | e | e | e | e <;> subst e <;> rfl
    · rcases (show n = 40 ∨ n = 41 ∨ n = 42 ∨ n = 43 by omega) with e | e | e | e <;> subst e <;> rfl
  have FX5 : FX fixK ρ3 g5 (qK X) := fun e he => by
    simp only [fixK, List.mem_cons, List.not_mem_nil, or_false] at he
    rcases he with he | he | he | he | he | he | he | he | he | he | he | he | he | he | he | he | he <;> subst he
    · exact fx 0 13 17 0 (by decide)
    · exact fx 2 6 18 0 (by decide)
    · exact fx 8 2 1 0 (by decide)
    · exact fx 17 7 11 0 (by decide)
    · exact fx 19 11 12 0 (by decide)
    · exact fx 24 10 13 0 (by decide)
    · exact fx 37 12 14 0 (by decide)
    · exact fx 38 12 15 0 (by decide)
    · exact fx 25 51 16 41 (by decide)
    · exact fx 26 50 16 41 (by decide)
    · exact fx 27 63 6 4 (by decide)
    · exact fx 28 63 8 4 (by decide)
    · obtain ⟨sa, q1, q2⟩ := ch5
      exact ⟨q1.1, q1.2.1, n39, q1.2.2⟩
    · exact fx 3 50 18 40 (by decide)
    · exact fx 4 50 18 40 (by decide)
    · exact fx 5 50 18 40 (by decide)
    · exact fx 6 50 18 40 (by decide)
  have r15 : h_r g5 X 15 = some (X + 39) := by rw [r5]; rfl
  have r16 : h_r g5 X 16 = some (X + 41) := by rw [r5]; rfl
  have r17 : h_r g5 X 17 = none := by rw [r5]; rfl
  have RF5 : RF refK g5 (qK X) := fun e he => by
    simp only [refK, List.mem_cons, List.not_mem_nil, or_false] at he
    rcases he with he | he | he | he | he | he | he | he | he | he | he | he | he | he | he | he | he | he | he | he | he <;> subst he
    · exact r0 3 2 (by decide) (by decide) (by decide) (by decide)
    · exact r0 4 8 (by decide) (by decide) (by decide) (by decide)
    · exact r0 5 17 (by decide) (by decide) (by decide) (by decide)
    · exact r0 6 19 (by decide) (by decide) (by decide) (by decide)
    · exact r0 7 24 (by decide) (by decide) (by decide) (by decide)
    · exact r0 9 37 (by decide) (by decide) (by decide) (by decide)
    · exact r0 10 38 (by decide) (by decide) (by decide) (by decide)
    · exact r0 11 25 (by decide) (by decide) (by decide) (by decide)
    · exact r0 12 26 (by decide) (by decide) (by decide) (by decide)
    · exact r0 13 27 (by decide) (by decide) (by decide) (by decide)
    · exact r0 14 28 (by decide) (by decide) (by decide) (by decide)
    · exact r15
    · exact r16
    · exact rf 27 0 29 (by decide) (by decide)
    · exact rf 27 1 31 (by decide) (by decide)
    · exact rf 27 2 33 (by decide) (by decide)
    · exact rf 27 3 35 (by decide) (by decide)
    · exact rf 2 0 3 (by decide) (by decide)
    · exact rf 2 1 4 (by decide) (by decide)
    · exact rf 2 2 5 (by decide) (by decide)
    · exact rf 2 3 6 (by decide) (by decide)
  have ne5 : qK X 28 ≠ qK X 29 ∧ qK X 28 ≠ qK X 30 ∧ qK X 28 ≠ qK X 31 ∧ qK X 29 ≠ qK X 30 ∧ qK X 29 ≠ qK X 31 ∧ qK X 30 ≠ qK X 31 := by
    show X + 3 ≠ X + 4 ∧ X + 3 ≠ X + 5 ∧ X + 3 ≠ X + 6 ∧ X + 4 ≠ X + 5 ∧ X + 4 ≠ X + 6 ∧ X + 5 ≠ X + 6
    omega
  have SH5 : SH ρ3 g5 (X + 17) [] := by
    obtain ⟨a1, a2, a3, a4⟩ := fx 17 7 11 0 (by decide)
    obtain ⟨e1, e2, e3, e4⟩ := fx 18 51 11 0 (by decide)
    refine ⟨X + 18, ⟨a1, a2, a4⟩, ⟨rf 17 0 18 (by decide) (by decide), e1, e2, e4, Or.inl e3⟩, ?_⟩
    show h_r g5 (X + 17) 2 = none
    rw [(same (X + 17) (by omega)).2.2.2.2.2 (by omega)]
    exact B.2.2.2.2.1.1 17 2 (by decide) (by decide) (by decide)
  have TO5 : TO ρ3 g5 (X + 19) (X + 22) (X + 23) := by
    obtain ⟨a1, a2, a3, a4⟩ := fx 19 11 12 0 (by decide)
    obtain ⟨e1, e2, e3, e4⟩ := fx 22 50 12 40 (by decide)
    obtain ⟨u1, u2, u3, u4⟩ := fx 23 50 12 40 (by decide)
    exact ⟨⟨a1, a2, a4⟩, ⟨rf 19 1 22 (by decide) (by decide), ⟨e1, e3⟩, e2, e4⟩, ⟨rf 19 2 23 (by decide) (by decide), ⟨u1, u3⟩, u2, u4⟩, by omega⟩
  have TP5 : TP ρ3 g5 X (0, fun _ => 0) := by
    obtain ⟨e1, e2, e3, e4⟩ := fx 1 52 17 0 (by decide)
    exact ⟨by rw [i0]; decide, X + 1, r0 0 1 (by decide) (by decide) (by decide) (by decide), e1, e2, e4, Or.inl e3, Nat.zero_le _, fun i hi => absurd hi (Nat.not_lt_zero _)⟩
  have cz0 := cz 29 20 (by decide) (by decide) (by decide) (by decide)
  have cz1 := cz 31 21 (by decide) (by decide) (by decide) (by decide)
  have cz2 := cz 33 22 (by decide) (by decide) (by decide) (by decide)
  have cz3 := cz 35 23 (by decide) (by decide) (by decide) (by decide)
  have czc : ∀ c, c < 4 → CZ ρ3 (20 + c) g5 (qK X (20 + c)) (zC F00.1.1 c) := fun c hc => by
    rcases (show c = 0 ∨ c = 1 ∨ c = 2 ∨ c = 3 by omega) with e | e | e | e <;> subst e
    · exact cz0
    · exact cz1
    · exact cz2
    · exact cz3
  refine ⟨ρ3, g5, ?_, ⟨⟨FX5, RF5, ne5⟩, ⟨⟨X + 9, X + 11, 2, 3, BO5, cb9.1, cb11.1, cb13.1, cb15.1⟩, SH5, TO5, 0, _, _, ch5⟩, czc, ⟨SX5, vS_0⟩, r17, TP5, by rw [show qK X 0 = X from rfl, i0]; decide⟩, t1F, ?_, ?_⟩
  · show f_K_init_189 N (nw g 3 0 2) X (some X) (some (h_x g)) = some ((), g5)
    unfold f_K_init_189
    rw [nn_s, b1, cl_s]
    unfold f_K_init_193
    rw [pR_k (show h_k g1 X = 12 + 1 by rw [(tF.2 X (by omega)).1]; exact k0.1), ← hg2]
    show f_K_init_200 N (nw g2 8 0 8) X (some X) (some (h_x g2)) = some ((), g5)
    unfold f_K_init_200
    rw [nn_s, c1, cl_s]
    unfold f_K_init_204
    have k3 : h_k g3 X = 12 + 1 := by
      rw [(tF3.2 X (by omega)).1, hg2]
      show h_k g1 X = 13
      rw [(tF.2 X (by omega)).1]; exact k0.1
    rw [pR_k k3, ← hg4, pR_k (show h_k g4 X = 12 + 1 by rw [hg4]; exact k3), ← hg5]
  · have : hm g5 = hm g3 := by rw [hg5, hg4]; rfl
    omega
  · have e1 : brs g5 (qK X 4) = 22272 := by
      show brs g5 (X + 8) = 22272
      rw [BO5.rs, cb9.2, cb11.2, cb13.2, cb15.2]; rfl
    have cp : ∀ c, (c + 1, 50, 20, 0) ∈ LKc ∨ True → True := fun _ _ => trivial
    have cc0 := cb 29 20 (by decide) (by decide) (by decide) (by decide)
    have cc1 := cb 31 21 (by decide) (by decide) (by decide) (by decide)
    have cc2 := cb 33 22 (by decide) (by decide) (by decide) (by decide)
    have cc3 := cb 35 23 (by decide) (by decide) (by decide) (by decide)
    have e2 : pCu g5 (qK X) = 22272 := by
      have q : pCu g5 (qK X) = sumN (fun c => rst (capR g5 (qK X (20 + c)))) 4 := rfl
      rw [q, sumN_congr (g := fun _ => 5568) 4 (fun c hc => by
        rcases (show c = 0 ∨ c = 1 ∨ c = 2 ∨ c = 3 by omega) with e | e | e | e <;> subst e
        · show rst (capR g5 (X + 29)) = 5568; rw [cc0.2]; rfl
        · show rst (capR g5 (X + 31)) = 5568; rw [cc1.2]; rfl
        · show rst (capR g5 (X + 33)) = 5568; rw [cc2.2]; rfl
        · show rst (capR g5 (X + 35)) = 5568; rw [cc3.2]; rfl)]
      rfl
    have e3 : rsh g5 (qK X 5) = 248 := by
      show rsh g5 (X + 17) = 248
      rw [rsh_of (rf 17 0 18 (by decide) (by decide)), (fx 18 51 11 0 (by decide)).2.2.1]; rfl
    have e4 : pSt g5 (qK X 16) = 3452 := by
      show pSt g5 (X + 41) = 3452
      rw [← x2]
      have : pSt g5 (h_x g2) = pSt g3 (h_x g2) := p5
      rw [this, c5]
    have e5 : rch g5 (qK X 15) = 53 := rc5
    have e6 : pIm g5 (qK X 0) = 3766 := by
      unfold pIm
      rw [show h_r g5 (qK X 0) 17 = none from r17]
    have e7 : pTp g5 (qK X 0) = 613 := by
      unfold pTp
      rw [show h_r g5 (qK X 0) 0 = some (X + 1) from r0 0 1 (by decide) (by decide) (by decide) (by decide)]
      simp only []
      rw [(fx 1 52 17 0 (by decide)).2.2.1]; rfl
    unfold kpt
    rw [e1, e2, e3, e4, e5, e6, e7]
