/-! runs' answer; tell -/
theorem zS_0 : ∀ n, zS (fun _ => 0) n = 0 := by
  intro n
  induction n with
  | zero => rfl
  | succ n ih => rw [zS, ih, zW]; split <;> rfl
theorem zV_0 : ∀ n, zV (fun _ => 0) n = 0 := by
  intro n
  induction n with
  | zero => rfl
  | succ n ih => rw [zV, ih, zS_0]; rfl
theorem zInv_0 : zInv (fun _ => 0) := by
  have v : zVee (fun _ => 0) := ⟨fun _ _ _ => Int.le_refl _, Int.le_refl _, by rw [zS_0]; exact Int.le_refl _⟩
  obtain ⟨n, n1, n2, n3, n4⟩ := zNear_spec v
  have l : zLeast (fun _ => 0) = 0 := by unfold zLeast; rw [n2, zVal_n, zV_0]
  have w := zS_all (fun _ => 0)
  rw [zS_0] at w
  exact ⟨v, ⟨by omega, by omega⟩, by omega⟩
theorem runs_is (N : Nat) (hN : 10004 ≤ N) {A : Nat → Nat} {m : Nat} {h : hS} (M : MO A m h) (G : Nat → Nat → Int32) {r cost n : Nat} {p : Nat → Int × Int × Int} {Y : Nat → Nat → Int} {lo : Int} (hR : rows A m h G r (161 * cost) n p Y lo) : ∃ G' res, f_M_runs N (w_i h G) m r (iI cost) = some (res, w_i h G') ∧ rEnd A m G p Y lo n G' res := by
  have m4 : (4, 50, 10003) ∈ mrows := by decide
  have n4m : A 4 ≠ m := M.ne m4 (by decide)
  have hr := hR.1
  have r4 : r ≠ A 4 := ro_ne hr (M.ro m4) (by decide)
  have rm : r ≠ m := fun q => by have e := hr.1; rw [q, M.1] at e; exact absurd e (by decide)
  obtain ⟨G1, hG1⟩ : ∃ G1, G1 = va_up (va_up G (A 4) (upto (G (A 4)) (fun _ => 0) 10003)) m (upd (va_up G (A 4) (upto (G (A 4)) (fun _ => 0) 10003) m) 12 (-1)) := ⟨_, rfl⟩
  have g1s : sG A m G G1 := ⟨fun x h1 h2 h3 h4 h5 => by rw [hG1]; simp [va_up, h1, h5], fun x h1 h2 => by rw [hG1]; simp [va_up, upd, h2, Ne.symm n4m]⟩
  have g12 : G1 m 12 = -1 := by rw [hG1]; simp [va_up, upd]
  have g14 : tEq (zi (G1 (A 4))) (zT p Y lo 0) := fun k hk => by
    rw [hG1]
    simp [va_up, n4m, zi, upto, hk, zT]
  unfold f_M_runs
  rw [gR_at (M.wi G) m4]
  simp only [nn]
  rw [clear_is N (len := 10003) (by omega) ((M.wi G).ro m4) (by omega), s_w_wi, h_i_wi]
  simp only [cl]
  rw [pI_at (M.wi _), s_i_wi, ← hG1]
  simp only [bn]
  rw [show (161 : Int32) = iI 161 from rfl, iI_mul, show (161 : Int) * (cost : Int) = ((161 * cost : Nat) : Int) by omega, show (0 : Int32) = iI ((0 : Nat) : Int) from rfl]
  have hn := hR.2.1
  exact runs_loop N hN M G hR n N 0 G1 (by omega) (by omega) g1s g12 g14 zInv_0 (fun i hi => absurd hi (by omega)) (fun i hi => absurd hi (by omega))
theorem tell_is (N : Nat) (hN : 10004 ≤ N) {A : Nat → Nat} {m : Nat} {h : hS} (M : MO A m h) (G : Nat → Nat → Int32) {cost n : Nat} {p : Nat → Int × Int × Int} {Y : Nat → Nat → Int} {lo : Int} (hR : rows A m h G (A 2) (161 * cost) n p Y lo) : ∃ G' res, f_M_tell N (w_i h G) m (iI cost) = some ((), w_i h G') ∧ rEnd A m G p Y lo n G' res := by
  obtain ⟨G', res, e, f⟩ := runs_is N hN M G hR
  refine ⟨G', res, ?_, f⟩
  unfold f_M_tell
  rw [gR_at (M.wi G) (i := 2) (k := 50) (n := 644) (by decide)]
  simp only [nn]
  rw [cv_at (M.wi G), e]
  rfl
