/-! THE REFERENCE: an act is kept -/
theorem upC_s (C : Cs) (c : Nat) (x : ChT) : upC (upC C c x) c (C c) = C := by
  funext d
  unfold upC
  by_cases e : d = c
  · rw [if_pos e, e]
  · rw [if_neg e, if_neg e]
theorem bk_act (C : Cs) (E : AcT) (na c : Nat) (x : ChT) : ∀ d, d ≤ na → bkC (upC C c x) (upE E na (c, C c)) (na + 1) (d + 1) = bkC C E na d := by
  intro d
  induction d with
  | zero =>
    intro _
    show upC (upC C c x) (upE E na (c, C c) (na + 1 - 1 - 0)).1 (upE E na (c, C c) (na + 1 - 1 - 0)).2 = C
    rw [show na + 1 - 1 - 0 = na by omega]
    unfold upE
    rw [if_pos rfl]
    exact upC_s C c x
  | succ d ih =>
    intro hd
    rw [bkC, ih (by omega), bkC, show na + 1 - 1 - (d + 1) = na - 1 - d by omega]
    unfold upE
    rw [if_neg (by omega)]
theorem bk_sh (C : Cs) (E : AcT) (na : Nat) : ∀ d, d ≤ na → bkC C (fun k => E (k + 1)) na d = bkC C E (na + 1) d := by
  intro d
  induction d with
  | zero => intro _; rfl
  | succ d ih =>
    intro hd
    rw [bkC, ih (by omega), bkC, show na - 1 - d + 1 = na + 1 - 1 - d by omega]
/-- the past row behind a keep: now comes to the place na -/
def mixT (T U : Nat → Int32) (na j p : Nat) : Int32 := if 644 * na ≤ p ∧ p < 644 * na + j then U (p - 644 * na) else T p
def shfT (T : Nat → Int32) (j p : Nat) : Int32 := if p + 644 < j then T (p + 644) else T p
def kpT (T U : Nat → Int32) (na : Nat) : Nat → Int32 := if na < 40 then mixT T U na 644 else mixT (shfT T 25760) U 39 644
/-- the now row behind an act: a row of one cost comes in -/
def nwT (U R : Nat → Int32) (c j p : Nat) : Int32 := if 161 * c ≤ p ∧ p < 161 * c + j then R (p - 161 * c) else U p
/-- the number t is named by the steps of one cost -/
def nm1 (h : hS) (r off t : Nat) : Prop := ∃ i : Nat, i < 40 ∧ (i : Int) < (h_i h r off).toInt ∧ h_i h r (off + 1 + 4 * i) = 8 ∧ h_i h r (off + 1 + 4 * i + 3) = iI t
def actG (A : Nat → Nat) (m : Nat) (h : hS) (na c : Nat) : hS := s_w (s_i (s_w h (A 42) (kpT (h_i h (A 42)) (h_i h (A 2)) na)) m 41 (iI (((if na < 40 then na else 39) + 1 : Nat) : Int))) (A 2) (nwT (h_i h (A 2)) (h_i h (A 18)) c 161)
section
variable {ρ : Nat → Nat} {A : Nat → Nat} {m : Nat} {h g u : hS} {F F' : FT}
theorem RM.acted (X : RM ρ A m h F) {c : Nat} (hc : c < 4) {x : ChT} (Rx : R1 A h (A 18) 0 x) (vx : vC x) {D0 : List Nat} (hD : D0.length ≤ 3) (hD2 : ∀ t, t < 1000 → nm1 h (A 18) 0 t → nmd h (A 2) 0 t ∨ t ∈ D0) : RM ρ A m (actG A m h F.1.2.1 c) (actS F.1 c x, F.2) ∧ chM A m h (actG A m h F.1.2.1 c) ∧ h_i (actG A m h F.1.2.1 c) m 1 = h_i h m 1 := by
  have n42 := X.mne (i := 42) (k := 50) (n := 25760) (by decide) (by decide)
  have n2 := X.mne (i := 2) (k := 50) (n := 644) (by decide) (by decide)
  have n422 := X.nn (by decide : (42, 50, 25760) ∈ mrows) (by decide : (2, 50, 644) ∈ mrows) (by decide)
  obtain ⟨rt, v⟩ := X.2.2.2.2.1
  obtain ⟨a1, a2, a3, a4, a5, a6, a7⟩ := rt
  have c1 : chM A m h (actG A m h F.1.2.1 c) := ((chM.rf.w (m_na 42 (k := 50) (n := 25760) (by decide)) _).f _ _).w (m_na 2 (k := 50) (n := 644) (by decide)) _
  have ho := (X.ch c1).2.2.2.1
  obtain ⟨na, hna⟩ : ∃ na, na = F.1.2.1 := ⟨_, rfl⟩
  have i2 : h_i (actG A m h F.1.2.1 c) (A 2) = nwT (h_i h (A 2)) (h_i h (A 18)) c 161 := by unfold actG; rw [h_i_sw, if_pos rfl]
  have i42 : h_i (actG A m h F.1.2.1 c) (A 42) = kpT (h_i h (A 42)) (h_i h (A 2)) na := by unfold actG; rw [h_i_sw, if_neg n422, h_i_si, if_neg n42, h_i_sw, if_pos rfl, hna]
  have im : ∀ j, j ≠ 41 → h_i (actG A m h F.1.2.1 c) m j = h_i h m j := fun j hj => by unfold actG; rw [h_i_sw, if_neg (Ne.symm n2), h_i_si, if_pos rfl, upd_o hj, h_i_sw, if_neg (Ne.symm n42)]
  have i41 : h_i (actG A m h F.1.2.1 c) m 41 = iI (((if na < 40 then na else 39) + 1 : Nat) : Int) := by unfold actG; rw [h_i_sw, if_neg (Ne.symm n2), h_i_si, if_pos rfl, upd_a, hna]
  have ia : ∀ i k n', (i, k, n') ∈ mrows → k ≠ 1 → i ≠ 42 → i ≠ 2 → h_i (actG A m h F.1.2.1 c) (A i) = h_i h (A i) := fun i k n' hi hk h1 h2 => by unfold actG; rw [h_i_sw, if_neg (X.nn hi (by decide : (2, 50, 644) ∈ mrows) h2), h_i_si, if_neg (X.mne hi hk), h_i_sw, if_neg (X.nn hi (by decide : (42, 50, 25760) ∈ mrows) h1)]
  have jj : ∀ q, h_j (actG A m h F.1.2.1 c) q = h_j h q := fun q => rfl
  generalize hg : actG A m h F.1.2.1 c = g at *
  have na40 : na ≤ 40 := by rw [hna]; exact a2.2.1
  rw [← hna] at a3 a4 a7
  -- now
  have Rn : ∀ d, d < 4 → R1 A g (A 2) (161 * d) (upC F.1.1 c x d) := fun d hd => by
    unfold upC
    by_cases e : d = c
    · subst e
      rw [if_pos rfl]
      refine Rx.cg (fun j hj => ?_) ho
      rw [i2]
      unfold nwT
      rw [if_pos ⟨by omega, by omega⟩]
      congr 1; omega
    · rw [if_neg e]
      refine (a1 d hd).cg (fun j hj => ?_) ho
      rw [i2]
      unfold nwT
      rw [if_neg (by omega)]
  -- past: the place p of the k-th row
  have Pk : ∀ k p, p < 644 → (if na < 40 then na else 39) ≠ k → k < 40 → h_i g (A 42) (644 * k + p) = h_i h (A 42) (644 * (if na < 40 then k else k + 1) + p) := fun k p hp hne hk => by
    rw [i42]
    unfold kpT
    by_cases e : na < 40
    · rw [if_pos e] at hne ⊢
      rw [if_pos e]
      unfold mixT
      rw [if_neg (by omega)]
    · rw [if_neg e] at hne ⊢
      rw [if_neg e]
      unfold mixT shfT
      rw [if_neg (by omega), if_pos (by omega)]
      congr 1; omega
  have Pn : ∀ p, p < 644 → h_i g (A 42) (644 * (if na < 40 then na else 39) + p) = h_i h (A 2) (0 + p) := fun p hp => by
    rw [i42]
    unfold kpT
    by_cases e : na < 40
    · rw [if_pos e, if_pos e]
      unfold mixT
      rw [if_pos ⟨by omega, by omega⟩]
      congr 1; omega
    · rw [if_neg e, if_neg e]
      unfold mixT
      rw [if_pos ⟨by omega, by omega⟩, show 644 * 39 + p - 644 * 39 = 0 + p by omega]
  -- names
  have Nn : ∀ t, t < 1000 → nmd g (A 2) 0 t → nmd h (A 2) 0 t ∨ t ∈ D0 := fun t ht => by
    rintro ⟨d, hd, i, i4, j1, j2, j3⟩
    rw [i2] at j1 j2 j3
    unfold nwT at j1 j2 j3
    by_cases e : d = c
    · subst e
      rw [if_pos ⟨by omega, by omega⟩] at j1 j2 j3
      refine hD2 t ht ⟨i, i4, ?_, ?_, ?_⟩
      · rw [show 0 + 161 * d - 161 * d = 0 by omega] at j1; exact j1
      · rw [show 0 + 161 * d + 1 + 4 * i - 161 * d = 0 + 1 + 4 * i by omega] at j2; exact j2
      · rw [show 0 + 161 * d + 1 + 4 * i + 3 - 161 * d = 0 + 1 + 4 * i + 3 by omega] at j3; exact j3
    · rw [if_neg (by omega)] at j1 j2 j3
      exact Or.inl ⟨d, hd, i, i4, j1, j2, j3⟩
  have Nk : ∀ k t, k < 40 → (if na < 40 then na else 39) ≠ k → (nmd g (A 42) (644 * k) t ↔ nmd h (A 42) (644 * (if na < 40 then k else k + 1)) t) := fun k t hk hne => nmd.cg (fun j hj => Pk k j hj hne hk)
  have Np : ∀ t, nmd g (A 42) (644 * (if na < 40 then na else 39)) t ↔ nmd h (A 2) 0 t := fun t => nmd.cg (fun j hj => Pn j hj)
  obtain ⟨D, d1, d2⟩ := a7
  have fin : ∀ (na' : Nat) (E' : AcT), (actS F.1 c x).2.1 = na' + 1 → na' = (if na < 40 then na else 39) → (actS F.1 c x).2.2.1 = upE E' na' (c, F.1.1 c) → (∀ d, d ≤ na' → bkC F.1.1 E' na' d = bkC F.1.1 F.1.2.2.1 na d) → (actS F.1 c x).2.2.2 = F.1.2.2.2 → RM ρ A m g (actS F.1 c x, F.2) := fun na' E' s1 s2 s3 s4 s5 => by
    refine X.put c1 ⟨im 13 (by decide), im 14 (by decide)⟩ ⟨⟨fun d hd => by rw [show (actS F.1 c x, F.2).1.1 = upC F.1.1 c x from actS_1 F.1 c x]; exact Rn d hd, ⟨by rw [i41, ← s2]; show _ = iI ((actS F.1 c x).2.1 : Int); rw [s1], by show (actS F.1 c x).2.1 ≤ 40; rw [s1, s2]; split <;> omega, by rw [im 43 (by decide)]; show _ = iI ((actS F.1 c x).2.2.2.1 : Int); rw [s5]; exact a2.2.2.1, by show (actS F.1 c x).2.2.2.1 ≤ 8; rw [s5]; exact a2.2.2.2⟩, fun k hk d hd => ?_, fun k h1 h2 d hd => ?_, fun k hk => ?_, fun k hk => ?_, ?_⟩, vS_act v hc vx⟩ (X.ri.cg (ia 52 50 644 (by decide) (by decide) (by decide) (by decide)) (ia 53 50 25760 (by decide) (by decide) (by decide) (by decide)) (ia 54 50 8 (by decide) (by decide) (by decide) (by decide)) (jj _) (ia 55 50 3 (by decide) (by decide) (by decide) (by decide)) (im 49 (by decide)) (im 50 (by decide)) (im 51 (by decide)) ho) (by rw [im 20 (by decide), ia 17 50 600 (by decide) (by decide) (by decide) (by decide)]; exact X.2.2.2.2.2.2.1) (by rw [im 29 (by decide)]; exact X.2.2.2.2.2.2.2)
    · have hk' : k < na' + 1 := by rw [← s1]; exact hk
      have eb : bkC (actS F.1 c x).1 (actS F.1 c x).2.2.1 (actS F.1 c x).2.1 ((actS F.1 c x).2.1 - k) = bkC F.1.1 F.1.2.2.1 na (na' - k) := by
        rw [actS_1, s1, s3, show na' + 1 - k = (na' - k) + 1 by omega, bk_act F.1.1 E' na' c x (na' - k) (by omega), s4 _ (by omega)]
      show R1 A g (A 42) (644 * k + 161 * d) (bkC (actS F.1 c x).1 (actS F.1 c x).2.2.1 (actS F.1 c x).2.1 ((actS F.1 c x).2.1 - k) d)
      rw [eb]
      by_cases e : k = na'
      · subst e
        rw [Nat.sub_self]
        refine (a1 d hd).cg (fun j hj => ?_) ho
        have := Pn (161 * d + j) (by omega)
        rw [← s2] at this
        rw [show 644 * k + 161 * d + j = 644 * k + (161 * d + j) by omega, this]; congr 1; omega
      · have q := a3 (if na < 40 then k else k + 1) (by rw [s2] at hk' e; split at hk' <;> rename_i z <;> simp only [z, if_true, if_false] at e ⊢ <;> omega) d hd
        rw [show na - (if na < 40 then k else k + 1) = na' - k by rw [s2]; split <;> omega] at q
        refine q.cg (fun j hj => ?_) ho
        have := Pk k (161 * d + j) (by omega) (by rw [← s2]; exact fun z => e z.symm) (by rw [s2] at hk'; split at hk' <;> omega)
        rw [show 644 * k + 161 * d + j = 644 * k + (161 * d + j) by omega, this]; congr 1; omega
    · have h1' : na' + 1 ≤ k := by rw [← s1]; exact h1
      have := Pk k (161 * d) (by omega) (by rw [← s2]; omega) h2
      rw [this]
      have n40 : na < 40 := by
        by_cases z : na < 40
        · exact z
        · rw [s2, if_neg z] at h1'; omega
      rw [if_pos n40]
      rw [s2, if_pos n40] at h1'
      exact a4 k (by omega) h2 d hd
    · have hk' : k < F.1.2.2.2.1 := by have : k < (actS F.1 c x).2.2.2.1 := hk; rw [s5] at this; exact this
      rw [ia 44 50 8 (by decide) (by decide) (by decide) (by decide), jj]
      show _ = iI ((actS F.1 c x).2.2.2.2.1 k) ∧ _ = (actS F.1 c x).2.2.2.2.2.1 k
      rw [s5]
      exact a5 k hk'
    · rw [ia 3 50 3 (by decide) (by decide) (by decide) (by decide)]
      show _ = (actS F.1 c x).2.2.2.2.2.2 k
      rw [s5]
      exact a6 k hk
    · show cov g (A 2) (A 42) (actS F.1 c x).2.1
      rw [s1]
      refine ⟨fun k => if k = na' then D0 else D (if na < 40 then k else k + 1), fun k hk => ?_, fun k hk t ht q => ?_⟩
      · show (if k = na' then D0 else D (if na < 40 then k else k + 1)).length ≤ 3
        by_cases e : k = na'
        · rw [if_pos e]; exact hD
        · rw [if_neg e]
          refine d1 _ ?_
          rw [s2] at hk e
          split at hk <;> rename_i z <;> simp only [z, if_true, if_false] at e ⊢ <;> omega
      · show nmd g (A 42) (644 * k) t ∨ t ∈ (if k = na' then D0 else D (if na < 40 then k else k + 1))
        by_cases e : k = na'
        · subst e
          rw [if_pos rfl] at q
          rw [if_pos rfl]
          rcases Nn t ht q with z | z
          · left
            have := (Np t).mpr z
            rw [← s2] at this
            exact this
          · exact Or.inr z
        · rw [if_neg (show ¬ k + 1 = na' + 1 by omega)] at q
          rw [if_neg e]
          have hk1 : k < na' := by omega
          have hne : (if na < 40 then na else 39) ≠ k := by rw [← s2]; exact fun z => e z.symm
          have k40 : k < 40 := by rw [s2] at hk1; split at hk1 <;> omega
          have key : (if (if na < 40 then k else k + 1) + 1 = na then nmd h (A 2) 0 t else nmd h (A 42) (644 * ((if na < 40 then k else k + 1) + 1)) t) := by
            by_cases e2 : k + 1 = na'
            · rw [e2] at q
              have q' : nmd g (A 42) (644 * (if na < 40 then na else 39)) t := by rw [← s2]; exact q
              rw [if_pos (by rw [s2] at e2; split at e2 <;> rename_i z <;> simp only [z, if_true, if_false] <;> omega)]
              exact (Np t).mp q'
            · have q' := (Nk (k + 1) t (by rw [s2] at hk1 e2; split at hk1 <;> omega) (by rw [← s2]; exact fun z => e2 z.symm)).mp q
              rw [if_neg (by rw [s2] at e2 hk1; split at e2 <;> rename_i z <;> simp only [z, if_true, if_false] at hk1 ⊢ <;> omega)]
              rw [show 644 * ((if na < 40 then k else k + 1) + 1) = 644 * (if na < 40 then k + 1 else k + 1 + 1) by split <;> omega]
              exact q'
          rcases d2 (if na < 40 then k else k + 1) (by rw [s2] at hk1; split at hk1 <;> rename_i z <;> simp only [z, if_true, if_false] <;> omega) t ht key with z | z
          · exact Or.inl ((Nk k t k40 hne).mpr z)
          · exact Or.inr z
  refine ⟨?_, c1, im 1 (by decide)⟩
  by_cases e : na < 40
  · have hs : actS F.1 c x = (upC F.1.1 c x, F.1.2.1 + 1, upE F.1.2.2.1 F.1.2.1 (c, F.1.1 c), F.1.2.2.2) := by unfold actS; rw [if_pos (by rw [← hna]; exact e)]
    exact fin na F.1.2.2.1 (by rw [hs, hna]) (by rw [if_pos e]) (by rw [hs, hna]) (fun d _ => rfl) (by rw [hs])
  · have n40 : na = 40 := by omega
    have hs : actS F.1 c x = (upC F.1.1 c x, 40, upE (fun k => F.1.2.2.1 (k + 1)) 39 (c, F.1.1 c), F.1.2.2.2) := by unfold actS; rw [if_neg (by rw [← hna]; exact e)]
    exact fin 39 (fun k => F.1.2.2.1 (k + 1)) (by rw [hs]) (by rw [if_neg e]) (by rw [hs]) (fun d hd => by rw [bk_sh F.1.1 F.1.2.2.1 39 d hd, n40]) (by rw [hs])
end
