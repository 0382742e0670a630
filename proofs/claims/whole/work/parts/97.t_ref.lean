/-! THE REFERENCE: a table on top -/
theorem hm_nwr (h : hS) (a k : Nat) (v : Option Nat) : hm (s_r (nw h 50 10003 10003) a k v) = hm h + 10016 := by
  have x1 : h_x (s_r (nw h 50 10003 10003) a k v) = h_x h + 1 := rfl
  have s1 : h_s (s_r (nw h 50 10003 10003) a k v) = h_s h + 10003 := rfl
  unfold hm
  rw [x1, s1]
  generalize h_x h = a
  generalize h_s h = b
  omega
theorem addK {a b x : Nat} (h : a + 10016 = b + 0) : x + 10016 + a = x + b := by omega
section
variable {ρ : Nat → Nat} {A : Nat → Nat} {m : Nat} {h g u : hS} {F F' : FT}
theorem R1.cgn {r k τ : Nat} {x : ChT} (hτ : τ < 1000) (R : R1 A h r k x) (hi : h_i g r = h_i h r) (ho : ∀ (t : Int) Y, t ≠ τ → onB A h (h_i h) t Y → onB A g (h_i g) t Y) (hn : ¬ nm1 h r k τ) : R1 A g r k x := by
  obtain ⟨a, b, c⟩ := R
  refine ⟨by rw [hi]; exact a, b, fun i hx => ?_⟩
  obtain ⟨c1, c2, c3, t, c4, c5⟩ := c i hx
  rw [hi]
  refine ⟨c1, c2, c3, t, c4, fun q => ho t _ (fun e => hn ⟨i, by omega, by rw [a, iI_toInt (by omega) (by omega)]; omega, by rw [c1, q]; rfl, by rw [c4, e]⟩) (c5 q)⟩
theorem nm1_nmd {r off c t : Nat} (hc : c < 4) (q : nm1 h r (off + 161 * c) t) : nmd h r off t := by
  obtain ⟨i, i1, i2, i3, i4⟩ := q
  exact ⟨c, hc, i, i1, i2, i3, i4⟩
theorem RT0.cgn {r0 rp rx rv rs τ : Nat} {fa fn fa' fn' : Int32} {S : StT} (hτ : τ < 1000) (R : RT0 A h r0 rp rx rv rs fa fn S) (h0 : h_i g r0 = h_i h r0) (hp : h_i g rp = h_i h rp) (hx : h_i g rx = h_i h rx) (hv : h_j g rv = h_j h rv) (hs : h_i g rs = h_i h rs) (ea : fa' = fa) (en : fn' = fn) (ho : ∀ (t : Int) Y, t ≠ τ → onB A h (h_i h) t Y → onB A g (h_i g) t Y) (n0 : ¬ nmd h r0 0 τ) (np : ∀ k, k < S.2.1 → ¬ nmd h rp (644 * k) τ) : RT0 A g r0 rp rx rv rs fa' fn' S := by
  obtain ⟨a1, a2, a3, a4, a5, a6, a7⟩ := R
  exact ⟨fun c hc => (a1 c hc).cgn hτ h0 ho (fun z => n0 (nm1_nmd hc (by rw [Nat.zero_add]; exact z))), by rw [ea, en]; exact a2, fun k hk c hc => (a3 k hk c hc).cgn hτ hp ho (fun z => np k hk (nm1_nmd hc z)), fun k h1 h2 c hc => by rw [hp]; exact a4 k h1 h2 c hc, fun k hk => by rw [hx, hv]; exact a5 k hk, fun k hk => by rw [hs]; exact a6 k hk, a7.cg h0 hp⟩
/-- no row of the reference names τ -/
def unnm (A : Nat → Nat) (h : hS) (F : FT) (τ : Nat) : Prop := (¬ nmd h (A 2) 0 τ ∧ ∀ k, k < F.1.2.1 → ¬ nmd h (A 42) (644 * k) τ) ∧ ∀ S, F.2.1 = some S → ¬ nmd h (A 52) 0 τ ∧ ∀ k, k < S.2.1 → ¬ nmd h (A 53) (644 * k) τ
/-- a table that nobody names is written -/
theorem RM.tab (X : RM ρ A m h F) {τ c : Nat} (hτ : τ < 1000) (hc : h_r h (A 7) τ = some c) (un : unnm A h F τ) (T : Nat → Int32) : RM ρ A m (s_w h c T) F ∧ tr ρ h (rg 300) ρ (s_w h c T) ∧ (∀ (t : Int) Y, t ≠ τ → onB A h (h_i h) t Y → onB A (s_w h c T) (h_i (s_w h c T)) t Y) := by
  obtain ⟨n1, n2, n3, n4', n5⟩ := X.tne hτ hc
  have ia : ∀ i k n, (i, k, n) ∈ mrows → h_i (s_w h c T) (A i) = h_i h (A i) := fun i k n hi => by rw [h_i_sw, if_neg (fun e => n2 _ hi e.symm)]
  have im : h_i (s_w h c T) m = h_i h m := by rw [h_i_sw, if_neg (Ne.symm n1)]
  have t : tr ρ h (rg 300) ρ (s_w h c T) := tr_sw n4'
  have ho : ∀ (t : Int) Y, t ≠ τ → onB A h (h_i h) t Y → onB A (s_w h c T) (h_i (s_w h c T)) t Y := fun t Y ht O => by
    obtain ⟨c0, c1, _⟩ := id O
    refine O.cg (fun c' hr => ⟨hr, fun y => y, ?_⟩)
    have ne : c' ≠ c := fun e => by
      have := X.2.1.2 t.toNat τ c (by omega) hτ (by rw [← e]; exact hr) hc
      omega
    rw [h_i_sw, if_neg ne]
  obtain ⟨⟨M, l1, l2⟩, tb, f1, wd, ⟨rt, v⟩, im', tp, ft⟩ := X
  refine ⟨⟨⟨M, l1, l2⟩, tb, by rw [im]; exact f1, fun k hk => (wd k hk).keep t (fun z => by have : (30 : Nat) = 300 := z; omega), ⟨rt.cgn hτ (ia 2 50 644 (by decide)) (ia 42 50 25760 (by decide)) (ia 44 50 8 (by decide)) rfl (ia 3 50 3 (by decide)) (by rw [im]) (by rw [im]) ho un.1.1 un.1.2, v⟩, ?_, by rw [im, ia 17 50 600 (by decide)]; exact tp, by rw [im]; exact ft⟩, t, ho⟩
  have un2 := un.2
  revert im' un2
  cases F.2.1 with
  | none =>
    rintro ⟨i1, i2, i3⟩ _
    exact ⟨by rw [im]; exact i1, by rw [ia 52 50 644 (by decide)]; exact i2, by rw [ia 53 50 25760 (by decide)]; exact i3⟩
  | some S =>
    rintro ⟨i1, i2, i3⟩ un2
    obtain ⟨u1, u2⟩ := un2 S rfl
    exact ⟨by rw [im]; exact i1, i2.cgn hτ (ia 52 50 644 (by decide)) (ia 53 50 25760 (by decide)) (ia 54 50 8 (by decide)) rfl (ia 55 50 3 (by decide)) (by rw [im]) (by rw [im]) ho u1 u2, i3⟩
/-- a new table -/
theorem RM.alloc (X : RM ρ A m h F) {τ : Nat} (hτ : τ < 1000) (hn : h_r h (A 7) τ = none) : RM (ext ρ h 300) A m (s_r (nw h 50 10003 10003) (A 7) τ (some (h_x h))) F ∧ tr ρ h (rg 300) (ext ρ h 300) (s_r (nw h 50 10003 10003) (A 7) τ (some (h_x h))) ∧ h_r (s_r (nw h 50 10003 10003) (A 7) τ (some (h_x h))) (A 7) τ = some (h_x h) ∧ (∀ q, q < h_x h → h_i (s_r (nw h 50 10003 10003) (A 7) τ (some (h_x h))) q = h_i h q) ∧ (∀ (t : Int) Y, onB A h (h_i h) t Y → onB A (s_r (nw h 50 10003 10003) (A 7) τ (some (h_x h))) (h_i (s_r (nw h 50 10003 10003) (A 7) τ (some (h_x h)))) t Y) ∧ (τ < 564 → hm (s_r (nw h 50 10003 10003) (A 7) τ (some (h_x h))) + pTb A (s_r (nw h 50 10003 10003) (A 7) τ (some (h_x h))) = hm h + pTb A h) := by
  have l7 := X.1.2.2 (7, 60, 1000) (by decide)
  simp only [] at l7
  have hx7 : ext ρ h 300 (A 7) = 300 := by unfold ext; rw [if_pos l7.2]; exact l7.1
  have t : tr ρ h (rg 300) (ext ρ h 300) (s_r (nw h 50 10003 10003) (A 7) τ (some (h_x h))) := (tr_nw (R := rg 300)).trans (tr_sr hx7)
  have r7 : h_r (s_r (nw h 50 10003 10003) (A 7) τ (some (h_x h))) (A 7) τ = some (h_x h) := by rw [h_r_sr, if_pos rfl]; unfold va_up; rw [if_pos rfl]
  have n7 : A 7 ≠ h_x h := by have := l7.2; omega
  have r7o : ∀ k, k ≠ τ → h_r (s_r (nw h 50 10003 10003) (A 7) τ (some (h_x h))) (A 7) k = h_r h (A 7) k := fun k hk => by rw [h_r_sr, if_pos rfl]; unfold va_up; rw [if_neg hk, r_nw, if_neg n7]
  have ro' : ∀ q, q < h_x h → q ≠ A 7 → h_r (s_r (nw h 50 10003 10003) (A 7) τ (some (h_x h))) q = h_r h q := fun q hq h7 => by rw [h_r_sr, if_neg h7, r_nw, if_neg (by omega)]
  have ii : ∀ q, q < h_x h → h_i (s_r (nw h 50 10003 10003) (A 7) τ (some (h_x h))) q = h_i h q := fun q hq => by rw [h_i_sr, i_nw, if_neg (by omega)]
  have jj : ∀ q, q < h_x h → h_j (s_r (nw h 50 10003 10003) (A 7) τ (some (h_x h))) q = h_j h q := fun q hq => by rw [h_j_sr, j_nw, if_neg (by omega)]
  have kk : ∀ q, q < h_x h → h_k (s_r (nw h 50 10003 10003) (A 7) τ (some (h_x h))) q = h_k h q ∧ h_n (s_r (nw h 50 10003 10003) (A 7) τ (some (h_x h))) q = h_n h q := fun q hq => ⟨by rw [h_k_sr, k_nw, if_neg (by omega)], by rw [h_n_sr, n_nw, if_neg (by omega)]⟩
  have kn : ro (s_r (nw h 50 10003 10003) (A 7) τ (some (h_x h))) (h_x h) 10003 := ⟨by rw [h_k_sr, k_nw, if_pos rfl], by rw [h_n_sr, n_nw, if_pos rfl]⟩
  have lA : ∀ i k n, (i, k, n) ∈ mrows → A i < h_x h := fun i k n hi => (X.1.2.2 _ hi).2
  have ho : ∀ (t : Int) Y, onB A h (h_i h) t Y → onB A (s_r (nw h 50 10003 10003) (A 7) τ (some (h_x h))) (h_i (s_r (nw h 50 10003 10003) (A 7) τ (some (h_x h)))) t Y := fun t Y O => by
    obtain ⟨c0, c1, _⟩ := id O
    refine O.cg (fun c' hr => ?_)
    obtain ⟨_, _, q3, q4, q5⟩ := X.tne (t := t.toNat) (by omega) hr
    have hne : t.toNat ≠ τ := fun e => by rw [e, hn] at hr; cases hr
    exact ⟨by rw [r7o _ hne]; exact hr, fun y => ⟨by rw [(kk c' q5).1]; exact y.1, by rw [(kk c' q5).2]; exact y.2⟩, ii c' q5⟩
  have X0 := X
  obtain ⟨⟨M, ⟨l1, l2⟩, l3⟩, ⟨t1, t2⟩, f1, wd, ⟨rt, v⟩, im', tp, ft⟩ := X
  have n7m : m ≠ A 7 := Ne.symm (M.ne (by decide : (7, 60, 1000) ∈ mrows) (by decide))
  refine ⟨⟨⟨⟨by rw [(kk m l2).1]; exact M.1, fun q hq => by rw [ro' m l2 n7m, (kk _ (l3 q hq).2).1, (kk _ (l3 q hq).2).2]; exact M.2.1 q hq, M.2.2⟩, ⟨by unfold ext; rw [if_pos l2]; exact l1, by show m < h_x h + 1; omega⟩, fun q hq => ⟨by unfold ext; rw [if_pos (l3 q hq).2]; exact (l3 q hq).1, by have := (l3 q hq).2; show A q.1 < h_x h + 1; omega⟩⟩, ⟨fun t' ht' => ?_, fun a b c ha hb ea eb => ?_⟩, by rw [ii m l2]; exact f1, fun k hk => ?_, ⟨rt.cg (ii _ (lA 2 50 644 (by decide))) (ii _ (lA 42 50 25760 (by decide))) (ii _ (lA 44 50 8 (by decide))) (jj _ (lA 45 51 8 (by decide))) (ii _ (lA 3 50 3 (by decide))) (by rw [ii m l2]) (by rw [ii m l2]) ho, v⟩, ?_, by rw [ii m l2, ii _ (lA 17 50 600 (by decide))]; exact tp, by rw [ii m l2]; exact ft⟩, t, r7, ii, ho, fun h564 => ?_⟩
  · by_cases e : t' = τ
    · subst e
      refine Or.inr ⟨h_x h, r7, kn, by unfold ext; rw [if_neg (Nat.lt_irrefl _)], by show h_x h < h_x h + 1; omega, ?_, ?_, ?_⟩
      · have := lA 4 50 10003 (by decide); omega
      · have := lA 5 50 10003 (by decide); omega
      · have := lA 6 50 10003 (by decide); omega
    · rw [r7o _ e]
      rcases t1 t' ht' with z | ⟨c', z1, z2, z3, z4, z5⟩
      · exact Or.inl z
      · exact Or.inr ⟨c', z1, ⟨by rw [(kk c' z4).1]; exact z2.1, by rw [(kk c' z4).2]; exact z2.2⟩, by unfold ext; rw [if_pos z4]; exact z3, by show c' < h_x h + 1; omega, z5⟩
  · by_cases e1 : a = τ
    · by_cases e2 : b = τ
      · rw [e1, e2]
      · exfalso
        rw [e1, r7] at ea
        rw [r7o _ e2] at eb
        obtain ⟨_, _, _, _, q5⟩ := X0.tne hb eb
        injection ea with ea
        omega
    · by_cases e2 : b = τ
      · exfalso
        rw [e2, r7] at eb
        rw [r7o _ e1] at ea
        obtain ⟨_, _, _, _, q5⟩ := X0.tne ha ea
        injection eb with eb
        omega
      · rw [r7o _ e1] at ea
        rw [r7o _ e2] at eb
        exact t2 a b c ha hb ea eb
  · rw [ro' _ (lA 0 61 9 (by decide)) (M.nn (by decide : (0, 61, 9) ∈ mrows) (by decide : (7, 60, 1000) ∈ mrows) (by decide))]
    exact (wd k hk).keep t (fun z => by have : (30 : Nat) = 300 := z; omega)
  · revert im'
    cases F.2.1 with
    | none =>
      rintro ⟨i1, i2, i3⟩
      exact ⟨by rw [ii m l2]; exact i1, by rw [ii _ (lA 52 50 644 (by decide))]; exact i2, by rw [ii _ (lA 53 50 25760 (by decide))]; exact i3⟩
    | some S =>
      rintro ⟨i1, i2, i3⟩
      exact ⟨by rw [ii m l2]; exact i1, i2.cg (ii _ (lA 52 50 644 (by decide))) (ii _ (lA 53 50 25760 (by decide))) (ii _ (lA 54 50 8 (by decide))) (jj _ (lA 56 51 8 (by decide))) (ii _ (lA 55 50 3 (by decide))) (by rw [ii m l2]) (by rw [ii m l2]) ho, i3⟩
  · have e1 : hm (s_r (nw h 50 10003 10003) (A 7) τ (some (h_x h))) = hm h + 10016 := hm_nwr h (A 7) τ (some (h_x h))
    have key := sumN_one (f := fun t => if h_r h (A 7) t = none then 10016 else 0) (g := fun t => if h_r (s_r (nw h 50 10003 10003) (A 7) τ (some (h_x h))) (A 7) t = none then 10016 else 0) (k := τ) 564 h564 (fun j hj hne => by rw [r7o j hne])
    rw [r7, hn] at key
    simp only [if_true, reduceCtorEq, if_false] at key
    unfold pTb
    rw [e1]
    exact addK key
end
