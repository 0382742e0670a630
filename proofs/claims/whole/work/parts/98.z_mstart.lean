/-! THE REFERENCE AT ITS START -/
set_option maxRecDepth 20000 in
set_option maxHeartbeats 4000000 in
theorem mstart_is (N : Nat) (ρ0 : Nat → Nat) (h0 : hS) (hx0 : 0 < h_x h0) (ws : ∀ k, k < 9 → WD ρ0 h0 (h_r h0 0 (18 + k)) (zWord k)) : ∃ ρ g, f_M_init N (nw h0 1 0 57) (h_x h0) = some ((), g) ∧ RM ρ (aM (h_x h0)) (h_x h0) g F00 ∧ (∀ R, tr ρ0 h0 R ρ g) ∧ hm g = hm h0 + 112446 ∧ pTb (aM (h_x h0)) g = 5649024 := by
  obtain ⟨ρ, g, e, B⟩ := minit_book N ρ0 h0 hx0 (fun k hk => by
    obtain ⟨a, b, q1, q2, _⟩ := ws k hk
    exact ⟨a, q1, q2.1, q2.2.2⟩)
  obtain ⟨X, hX⟩ : ∃ X, X = h_x h0 := ⟨_, rfl⟩
  rw [← hX] at B e ⊢
  have x30 : h_x g = X + 30 := B.2.2.2.1.1
  have T := B.2.2.2.2.2.2
  have i0 := B.2.2.1.1
  have fx : ∀ i kd n, (i, kd, 300, n) ∈ LMc → h_k g (X + i) = kd ∧ ρ (X + i) = 300 ∧ h_n g (X + i) = n ∧ X + i < h_x g := fun i kd n hi => B.1.1 _ hi
  have rf : ∀ k j, (0, k, j) ∈ RMc → h_r g X k = some (X + j) := fun k j hi => B.1.2.1 _ hi
  have zz : ∀ i, 1 < i → i < 30 → h_i g (X + i) = (fun _ => 0) ∧ h_j g (X + i) = fun _ => 0 := fun i h1 h2 => by
    obtain ⟨z1, z2⟩ := B.2.1 (X + i) (by omega) (by omega)
    exact ⟨z1 (by omega), z2⟩
  have f0 := fx 0 1 0 (by decide)
  have key : ∀ q ∈ mrows, ∃ j, (0, q.1, j) ∈ RMc ∧ (j, q.2.1, 300, q.2.2) ∈ LMc ∧ aM X q.1 = X + j := fun q hq => by
    simp only [mrows, List.mem_cons, List.not_mem_nil, or_false] at hq
    rcases hq with hq | hq | hq | hq | hq | hq | hq | hq | hq | hq | hq | hq | hq | hq | hq | hq | hq | hq | hq | hq | hq | hq | hq | hq | hq | hq | hq | hq | hq <;> subst hq
    · exact ⟨1, by decide +kernel, by decide +kernel, rfl⟩
    · exact ⟨2, by decide +kernel, by decide +kernel, rfl⟩
    · exact ⟨3, by decide +kernel, by decide +kernel, rfl⟩
    · exact ⟨4, by decide +kernel, by decide +kernel, rfl⟩
    · exact ⟨5, by decide +kernel, by decide +kernel, rfl⟩
    · exact ⟨6, by decide +kernel, by decide +kernel, rfl⟩
    · exact ⟨7, by decide +kernel, by decide +kernel, rfl⟩
    · exact ⟨8, by decide +kernel, by decide +kernel, rfl⟩
    · exact ⟨9, by decide +kernel, by decide +kernel, rfl⟩
    · exact ⟨10, by decide +kernel, by decide +kernel, rfl⟩
    · exact ⟨11, by decide +kernel, by decide +kernel, rfl⟩
    · exact ⟨12, by decide +kernel, by decide +kernel, rfl⟩
    · exact ⟨13, by decide +kernel, by decide +kernel, rfl⟩
    · exact ⟨14, by decide +kernel, by decide +kernel, rfl⟩
    · exact ⟨15, by decide +kernel, by decide +kernel, rfl⟩
    · exact ⟨16, by decide +kernel, by decide +kernel, rfl⟩
    · exact ⟨17, by decide +kernel, by decide +kernel, rfl⟩
    · exact ⟨18, by decide +kernel, by decide +kernel, rfl⟩
    · exact ⟨19, by decide +kernel, by decide +kernel, rfl⟩
    · exact ⟨20, by decide +kernel, by decide +kernel, rfl⟩
    · exact ⟨21, by decide +kernel, by decide +kernel, rfl⟩
    · exact ⟨22, by decide +kernel, by decide +kernel, rfl⟩
    · exact ⟨23, by decide +kernel, by decide +kernel, rfl⟩
    · exact ⟨24, by decide +kernel, by decide +kernel, rfl⟩
    · exact ⟨25, by decide +kernel, by decide +kernel, rfl⟩
    · exact ⟨26, by decide +kernel, by decide +kernel, rfl⟩
    · exact ⟨27, by decide +kernel, by decide +kernel, rfl⟩
    · exact ⟨28, by decide +kernel, by decide +kernel, rfl⟩
    · exact ⟨29, by decide +kernel, by decide +kernel, rfl⟩
  have inj : ∀ e ∈ RMc, ∀ e' ∈ RMc, e.2.2 = e'.2.2 → e.2.1 = e'.2.1 := by decide +kernel
  have M : MO (aM X) X g := by
    refine ⟨f0.1, fun q hq => ?_, fun q hq q' hq' eq => ?_⟩
    · obtain ⟨j, j1, j2, j3⟩ := key q hq
      obtain ⟨a1, a2, a3, a4⟩ := fx _ _ _ j2
      rw [j3]
      exact ⟨rf _ _ j1, a1, a3⟩
    · obtain ⟨j, j1, j2, j3⟩ := key q hq
      obtain ⟨j', j1', j2', j3'⟩ := key q' hq'
      have ej : j = j' := by omega
      subst ej
      exact inj _ j1 _ j1' rfl
  have top : ∀ t, h_r g (aM X 7) t = none := fun t => B.2.2.2.2.1.1 7 t (by decide) (by decide) (fun e he => Or.inl (by
    have q : ∀ e ∈ RMc, e.1 ≠ 7 := by decide
    exact q e he))
  have wrow := B.2.2.2.2.1.2 (by decide)
  have wd : ∀ k, k < 9 → WD ρ g (h_r g (aM X 0) k) (zWord k) := fun k hk => by
    have q : h_r g (aM X 0) k = h_r h0 0 (18 + k) := by
      show h_r g (X + 1) k = _
      rw [wrow]
      rcases (show k = 0 ∨ k = 1 ∨ k = 2 ∨ k = 3 ∨ k = 4 ∨ k = 5 ∨ k = 6 ∨ k = 7 ∨ k = 8 by omega) with e | e | e | e | e | e | e | e | e <;> subst e <;> rfl
    rw [q]
    exact (ws k hk).keep (T (fun _ => False)) (fun z => z)
  have z2 := zz 2 (by decide) (by decide)
  have z20 := zz 20 (by decide) (by decide)
  have z21 := zz 21 (by decide) (by decide)
  have z3 := zz 3 (by decide) (by decide)
  have z25 := zz 25 (by decide) (by decide)
  have z26 := zz 26 (by decide) (by decide)
  have RT : RT0 (aM X) g (aM X 2) (aM X 42) (aM X 44) (aM X 45) (aM X 3) (h_i g X 41) (h_i g X 43) S00 := by
    refine ⟨fun c hc => ⟨?_, Nat.zero_le _, fun i hi => absurd hi (Nat.not_lt_zero _)⟩, ⟨by rw [i0]; rfl, Nat.zero_le _, by rw [i0]; rfl, Nat.zero_le _⟩, fun k hk => absurd hk (Nat.not_lt_zero _), fun k _ _ c hc => ?_, fun k hk => absurd hk (Nat.not_lt_zero _), fun k hk => ?_, ⟨fun _ => [], fun k hk => absurd hk (Nat.not_lt_zero _), fun k hk => absurd hk (Nat.not_lt_zero _)⟩⟩
    · show h_i g (X + 2) _ = _
      rw [z2.1]; rfl
    · show h_i g (X + 20) _ = _
      rw [z20.1]
    · show h_i g (X + 3) _ = _
      rw [z3.1]; rfl
  refine ⟨ρ, g, e, ⟨⟨M, ⟨f0.2.1, f0.2.2.2⟩, fun q hq => ?_⟩, ⟨fun t _ => Or.inl (top t), fun t t' c _ _ e1 _ => by rw [top t] at e1; cases e1⟩, ⟨by rw [i0]; decide, by rw [i0]; decide⟩, wd, ⟨RT, vS_0⟩, ⟨by rw [i0]; rfl, fun c hc => ?_, fun k hk c hc => ?_⟩, ⟨by rw [i0]; rfl, Nat.zero_le _, fun i hi => absurd hi (Nat.not_lt_zero _)⟩, by rw [i0]; decide⟩, T, B.2.2.2.1.2, ?_⟩
  · obtain ⟨j, j1, j2, j3⟩ := key q hq
    obtain ⟨a1, a2, a3, a4⟩ := fx _ _ _ j2
    rw [j3]
    exact ⟨a2, a4⟩
  · show h_i g (X + 25) _ = _
    rw [z25.1]
  · show h_i g (X + 26) _ = _
    rw [z26.1]
  · have q : pTb (aM X) g = sumN (fun _ => 10016) 564 := sumN_congr 564 (fun t _ => by
      show (if h_r g (aM X 7) t = none then 10016 else 0) = 10016
      rw [if_pos (top t)])
    rw [q]
    have s : ∀ n, sumN (fun _ => 10016) n = 10016 * n := by
      intro n
      induction n with
      | zero => rfl
      | succ n ih => rw [sumN, ih]; omega
    rw [s]
