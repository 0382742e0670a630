section
variable {ρ : Nat → Nat} {h : hS} {P : Nat → Nat} {ls : Nat} {S : StT} {lab : Nat → Nat}
/-- a new chain, of the label l -/
theorem chnew_is (N : Nat) (ρ : Nat → Nat) (h : hS) (l : Nat) (p : Nat → Int × Int × Int) (Y : Nat → Nat → Int) : ∃ g, f_Chain_init N (nw h 3 0 2) (h_x h) = some ((), g) ∧ (∀ R, tr ρ h R (ext ρ h l) g) ∧ CH (ext ρ h l) l g (h_x h) 0 p Y ∧ hm g = hm h + 28 ∧ rch g (h_x h) = 53 ∧ h_x g = h_x h + 2 := by
  have k1 : h_k (nw (nw h 3 0 2) 64 0 0) (h_x h) = 2 + 1 := by rw [k_nw, if_neg (by show ¬ h_x h = h_x h + 1; omega), k_nw, if_pos rfl]
  have hl : ext ρ h l (h_x h) = l := by unfold ext; rw [if_neg (Nat.lt_irrefl _)]
  have hl2 : ext ρ h l (h_x h + 1) = l := by unfold ext; rw [if_neg (by omega)]
  have e0 : h_r (s_i (s_r (nw (nw h 3 0 2) 64 0 0) (h_x h) 0 (some (h_x h + 1))) (h_x h) 1 0) (h_x h) 0 = some (h_x h + 1) := by rw [h_r_si, h_r_sr, if_pos rfl]; simp [va_up]
  have n1 : h_n (s_i (s_r (nw (nw h 3 0 2) 64 0 0) (h_x h) 0 (some (h_x h + 1))) (h_x h) 1 0) (h_x h + 1) = 0 := by rw [h_n_si, h_n_sr, n_nw, if_pos (show h_x h + 1 = h_x (nw h 3 0 2) from rfl)]
  refine ⟨s_i (s_r (nw (nw h 3 0 2) 64 0 0) (h_x h) 0 (some (h_x h + 1))) (h_x h) 1 0, ?_, ?_, ⟨h_x h + 1, ⟨k1, hl, by show h_x h < h_x h + 1 + 1; omega⟩, ⟨e0, ?_, hl2, by show h_x h + 1 < h_x h + 1 + 1; omega, Or.inl n1⟩, ?_, by omega, fun i hi => by omega⟩, ?_, ?_, rfl⟩
  · unfold f_Chain_init f_Chain_init_9
    rw [show (0 : Int32) = iI ((0 : Nat) : Int) from rfl, nwA_n (by omega), pR_k (show h_k (nw (nw h 3 0 2) 64 0 0) (h_x h) = 2 + 1 from k1), pI_k (show h_k (s_r (nw (nw h 3 0 2) 64 0 0) (h_x h) 0 (some (h_x (nw h 3 0 2)))) (h_x h) = 2 + 1 from k1)]
    rfl
  · intro R
    refine ⟨by show h_x h ≤ h_x h + 1 + 1; omega, fun a ha => ?_⟩
    have x1 : ¬ a = h_x h := by omega
    have x2 : ¬ a = h_x (nw h 3 0 2) := by show ¬ a = h_x h + 1; omega
    refine ⟨?_, ?_, by unfold ext; rw [if_pos ha], fun _ => ⟨?_, ?_, ?_⟩⟩
    · rw [h_k_si, h_k_sr, k_nw, if_neg x2, k_nw, if_neg x1]
    · rw [h_n_si, h_n_sr, n_nw, if_neg x2, n_nw, if_neg x1]
    · rw [h_i_si, if_neg x1, h_i_sr, i_nw, if_neg x2, i_nw, if_neg x1]
    · rw [h_j_si, h_j_sr, j_nw, if_neg x2, j_nw, if_neg x1]
    · rw [h_r_si, h_r_sr, if_neg x1, r_nw, if_neg x2, r_nw, if_neg x1]
  · rw [h_k_si, h_k_sr, k_nw, if_pos (show h_x h + 1 = h_x (nw h 3 0 2) from rfl)]
  · rw [h_i_si, if_pos rfl]; rfl
  · show 13 * (h_x h + 1 + 1) + (h_s h + 2 + 0) = 13 * h_x h + h_s h + 28; omega
  · unfold rch; rw [chN_of e0, n1, if_pos rfl]
/-- the state's place for an act's chain, made if there is none yet -/
theorem actChain_is (N : Nat) (X : SY ρ h P ls S lab) (hls : 100 ≤ ls) {k : Nat} (hk : k < 40) : ∃ ρ' g a n p Y, f_State_actChain N h (P 16) (iI k) = some (some a, g) ∧ tr ρ h (rg ls) ρ' g ∧ SY ρ' g P ls S lab ∧ h_r g (P 34) k = some a ∧ CH ρ' (lab k) g a n p Y ∧ hm g + pSt g (P 16) ≤ hm h + pSt h (P 16) ∧ (∀ c, c < 4 → rch g (P (40 + c)) = rch h (P (40 + c))) ∧ (∀ x, x < h_x h → h_i g x = h_i h x) ∧ ∀ j, j ≠ k → h_r g (P 34) j = h_r h (P 34) j := by
  have f16 := X.f16
  have f34 := X.f34
  have r34 := X.ref (i := 16) (k := 2) (j := 34) (by decide)
  have n9 : ¬ rg ls 9 := fun z => by have : 9 = ls := z; omega
  rcases X.2.2.2.1.2.2 k hk with ⟨a1, a2⟩ | ⟨a, n, p, Y, a1, a2, a3⟩
  · obtain ⟨g, b1, b2, b3, b4, b5, b6⟩ := chnew_is N ρ h (lab k) (fun _ => (0, 0, 0)) (fun _ _ => 0)
    have t0 := b2 (rg ls)
    have tF := b2 (fun _ => False)
    have X1 : SY (ext ρ h (lab k)) g P ls S lab := X.keep tF (fun z => z) (fun _ _ _ z => z)
    have f16' := X1.f16
    have f34' := X1.f34
    have p1 := X.pk tF (fun z => z) (fun _ _ _ z => z)
    have t1 : tr (ext ρ h (lab k)) g (rg ls) (ext ρ h (lab k)) (s_r g (P 34) k (some (h_x h))) := tr_sr f34'.2.1
    have hlk := X.2.2.2.1.2.1 k hk
    have hne : ¬ rg ls (lab k) := fun z => by have : lab k = ls := z; omega
    have C1 : CH (ext ρ h (lab k)) (lab k) (s_r g (P 34) k (some (h_x h))) (h_x h) 0 (fun _ => (0, 0, 0)) (fun _ _ => 0) := b3.keep t1 n9 hne
    have hr34 : ∀ j, j ≠ k → h_r (s_r g (P 34) k (some (h_x h))) (P 34) j = h_r g (P 34) j := fun j hj => by rw [h_r_sr, if_pos rfl]; unfold va_up; rw [if_neg hj]
    have hrk : h_r (s_r g (P 34) k (some (h_x h))) (P 34) k = some (h_x h) := by rw [h_r_sr, if_pos rfl]; unfold va_up; rw [if_pos rfl]
    have ho : ∀ x, x ≠ P 34 → h_r (s_r g (P 34) k (some (h_x h))) x = h_r g x := fun x hx => by rw [h_r_sr, if_neg hx]
    have n16 : P 16 ≠ P 34 := fun e => by have h1 := f16'.1; rw [e, f34'.1] at h1; exact absurd h1 (by decide)
    have n32 : P 32 ≠ P 34 := X.1.2.2.2.2.2
    have X2 : SY (ext ρ h (lab k)) (s_r g (P 34) k (some (h_x h))) P ls S lab := by
      obtain ⟨⟨f1, f2, f3⟩, b, c, ⟨l1, l2, l3⟩, e, f, i⟩ := X1
      refine ⟨⟨f1.keep t1, fun e he => ?_, f3⟩, b, fun c hc => ((‹∀ c, c < 4 → _› : ∀ c, c < 4 → CH (ext ρ h (lab k)) (ls + 1 + c) g (P (40 + c)) (S.1 c).1 (S.1 c).2.1 (S.1 c).2.2) c hc).keep t1 n9 (fun z => by have : ls + 1 + c = ls := z; omega), ⟨l1, l2, fun j hj => ?_⟩, e, f, i⟩
      · have : P e.1 ≠ P 34 := by
          simp only [refS, List.mem_cons, List.not_mem_nil, or_false] at he
          rcases he with he | he | he | he | he | he | he | he | he | he <;> subst he <;> first | exact n16 | exact n32
        rw [ho _ this]
        exact f2 e he
      · by_cases e : j = k
        · subst e
          exact Or.inr ⟨h_x h, 0, fun _ => (0, 0, 0), fun _ _ => 0, hrk, C1, fun z => by omega⟩
        · have hnj : ¬ rg ls (lab j) := fun z => by have h1 : lab j = ls := z; have := l2 j hj; omega
          rcases l3 j hj with ⟨c1, c2⟩ | ⟨a, n, p, Y, c1, c2, c3⟩
          · exact Or.inl ⟨by rw [hr34 j e]; exact c1, c2⟩
          · exact Or.inr ⟨a, n, p, Y, by rw [hr34 j e]; exact c1, c2.keep t1 n9 hnj, c3⟩
    refine ⟨ext ρ h (lab k), s_r g (P 34) k (some (h_x h)), h_x h, 0, fun _ => (0, 0, 0), fun _ _ => 0, ?_, t0.trans t1, X2, hrk, C1, ?_, ?_, fun x hx => (((tF.2 x hx).2.2.2 (fun z => z)).1), fun j hj => by rw [hr34 j hj, ((tF.2 (P 34) f34.2.2.2).2.2.2 (fun z => z)).2.2]⟩
    · unfold f_State_actChain f_State_actChain_17 f_State_actChain_21 f_State_actChain_22
      rw [gR_k f16.1, r34, aR_i f34.1 f34.2.2.1 hk (by omega), a1, if_pos rfl, gR_k f16.1, r34]
      unfold nwO
      simp only [nn]
      rw [b1, cl_s, uR_i f34'.1 f34'.2.2.1 hk (by omega) (fun b hb => by injection hb with hb; subst hb; exact b3.k), gR_k (show h_k (s_r g (P 34) k (some (h_x h))) (P 16) = 7 + 1 from f16'.1), show h_r (s_r g (P 34) k (some (h_x h))) (P 16) 2 = some (P 34) from X2.ref (i := 16) (k := 2) (j := 34) (by decide), aR_i (show h_k (s_r g (P 34) k (some (h_x h))) (P 34) = 62 from f34'.1) f34'.2.2.1 hk (by omega), hrk]
    · rw [← p1, X1.pst, X2.pst]
      have key := sumN_one (f := fun j => rcO g (h_r g (P 34) j)) (g := fun j => rcO (s_r g (P 34) k (some (h_x h))) (h_r (s_r g (P 34) k (some (h_x h))) (P 34) j)) (k := k) 40 hk (fun j hj hne => by
        rw [hr34 j hne]
        exact (X1.2.2.2.1.2.2 j hj).rc t1 (fun z => by have h1 : lab j = ls := z; have := X.2.2.2.1.2.1 j hj; omega))
      have e1 : rcO g (h_r g (P 34) k) = 81 := by
        obtain ⟨c1, c2, c3, c4⟩ := tF.2 (P 34) f34.2.2.2
        rw [(c4 (fun z => z)).2.2, a1]; rfl
      have e2 : rcO (s_r g (P 34) k (some (h_x h))) (h_r (s_r g (P 34) k (some (h_x h))) (P 34) k) = 53 := by
        rw [hrk]
        show rch (s_r g (P 34) k (some (h_x h))) (h_x h) = 53
        rw [rch_keep b3 t1 hne, b5]
      have e3 : sumN (fun c => rch (s_r g (P 34) k (some (h_x h))) (P (40 + c))) 4 = sumN (fun c => rch g (P (40 + c))) 4 := sumN_congr 4 (fun c hc => rch_keep (X1.2.2.1 c hc) t1 (fun z => by have : ls + 1 + c = ls := z; omega))
      have e4 : hm (s_r g (P 34) k (some (h_x h))) = hm g := rfl
      rw [e3, e4]
      omega
    · intro c hc
      rw [rch_keep (X1.2.2.1 c hc) t1 (fun z => by have : ls + 1 + c = ls := z; omega), rch_keep (X.2.2.1 c hc) tF (fun z => z)]
  · refine ⟨ρ, h, a, n, p, Y, ?_, tr.rf, X, a1, a2, Nat.le_refl _, fun _ _ => rfl, fun _ _ => rfl, fun _ _ => rfl⟩
    unfold f_State_actChain f_State_actChain_22
    rw [gR_k f16.1, r34, aR_i f34.1 f34.2.2.1 hk (by omega), a1, if_neg (by simp), gR_k f16.1, r34, aR_i f34.1 f34.2.2.1 hk (by omega), a1]
end
