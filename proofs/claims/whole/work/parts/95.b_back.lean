section
variable {ρ : Nat → Nat} {h : hS} {P : Nat → Nat} {ls : Nat} {S : StT} {lab : Nat → Nat}
theorem actChain_y (N : Nat) (X : SY ρ h P ls S lab) {k a : Nat} (hk : k < 40) (ha : h_r h (P 34) k = some a) : f_State_actChain N h (P 16) (iI k) = some (some a, h) := by
  have f16 := X.f16
  have f34 := X.f34
  have r34 := X.ref (i := 16) (k := 2) (j := 34) (by decide)
  unfold f_State_actChain f_State_actChain_22
  rw [gR_k f16.1, r34, aR_i f34.1 f34.2.2.1 hk (by omega), ha, if_neg (by simp), gR_k f16.1, r34, aR_i f34.1 f34.2.2.1 hk (by omega), ha]
theorem SY.chain (X : SY ρ h P ls S lab) {k : Nat} (hk : k < S.2.1) (h40 : S.2.1 ≤ 40) : ∃ a, h_r h (P 34) k = some a ∧ CH ρ (lab k) h a (S.2.2.1 k).2.1 (S.2.2.1 k).2.2.1 (S.2.2.1 k).2.2.2 := by
  rcases X.2.2.2.1.2.2 k (by omega) with ⟨c1, c2⟩ | ⟨a', n', p', Y', c1, c2, c3⟩
  · omega
  · obtain ⟨e1, e2, e3⟩ := c3 hk
    subst e1 e2 e3
    exact ⟨a', c1, c2⟩
/-- the number of acts is written -/
theorem SY.wna (X : SY ρ h P ls S lab) (hls : 100 ≤ ls) {na : Nat} {E : AcT} (hA : ∀ k, k < 40 → AS ρ h (P 34) (lab k) na k E) (hE : ∀ k, k < na → h_i h (P 33) k = iI (E k).1) : SY ρ (s_i h (P 16) 3 (iI na)) P ls (S.1, na, E, S.2.2.2) lab ∧ pSt (s_i h (P 16) 3 (iI na)) (P 16) = pSt h (P 16) := by
  have f16 := X.f16
  have ne2 : P 33 ≠ P 16 := fun e => by have h1 := f16.1; rw [← e, X.f33.1] at h1; exact absurd h1 (by decide)
  have ne3 : P 35 ≠ P 16 := fun e => by have h1 := f16.1; rw [← e, X.f35.1] at h1; exact absurd h1 (by decide)
  have ne4 : P 37 ≠ P 16 := fun e => by have h1 := f16.1; rw [← e, X.f37.1] at h1; exact absurd h1 (by decide)
  exact X.wi hls (a := P 16) (k := 3) (v := iI na) (S' := (S.1, na, E, S.2.2.2)) f16.2.1 rfl hA (by rw [if_pos rfl]; unfold upd; rw [if_pos rfl]) (by rw [if_pos rfl]; unfold upd; rw [if_neg (by decide)]; exact X.2.1.2) (fun j hj => by rw [if_neg ne2]; exact hE j hj) (fun j hj => by rw [if_neg ne3]; exact X.2.2.2.2.2.1 j hj) (fun j hj => by rw [if_neg ne4]; exact X.2.2.2.2.2.2 j hj)
/-- the latest act is taken back -/
def backS (S : StT) : StT := (upC S.1 (S.2.2.1 (S.2.1 - 1)).1 (S.2.2.1 (S.2.1 - 1)).2, S.2.1 - 1, S.2.2)
theorem back_n (N : Nat) (X : SY ρ h P ls S lab) (h0 : S.2.1 = 0) : f_State_takeBack N h (P 16) = some (-1, h) := by
  unfold f_State_takeBack f_State_takeBack_33
  rw [gI_k X.f16.1, X.2.1.1, h0, if_pos (by decide)]
theorem back_y (N : Nat) (hN : 100 ≤ N) (X : SY ρ h P ls S lab) (hls : 100 ≤ ls) (h0 : S.2.1 ≠ 0) (h40 : S.2.1 ≤ 40) (hc : (S.2.2.1 (S.2.1 - 1)).1 < 4) : ∃ ρ' g, f_State_takeBack N h (P 16) = some (iI (S.2.2.1 (S.2.1 - 1)).1, g) ∧ tr ρ h (fun q => ls ≤ q ∧ q < ls + 50) ρ' g ∧ SY ρ' g P ls (backS S) lab ∧ hm g + pSt g (P 16) ≤ hm h + pSt h (P 16) := by
  have f16 := X.f16
  have f33 := X.f33
  obtain ⟨X1, p1⟩ := X.wna hls (na := S.2.1 - 1) (E := S.2.2.1) (fun k hk => by
    rcases X.2.2.2.1.2.2 k hk with ⟨c1, c2⟩ | ⟨a', n', p', Y', c1, c2, c3⟩
    · exact Or.inl ⟨c1, by omega⟩
    · exact Or.inr ⟨a', n', p', Y', c1, c2, fun z => c3 (by omega)⟩) (fun k hk => X.2.2.2.2.1 k (by omega))
  have t1 : tr ρ h (rg ls) ρ (s_i h (P 16) 3 (iI ((S.2.1 - 1 : Nat) : Int))) := tr_si f16.2.1
  obtain ⟨a, a1, a2⟩ := X.chain (k := S.2.1 - 1) (by omega) h40
  have l2 := X.2.2.2.1.2.1 (S.2.1 - 1) (by omega)
  have n9 : ¬ rg ls 9 := fun z => by have : 9 = ls := z; omega
  have C1 := a2.keep t1 n9 (fun z => by have : lab (S.2.1 - 1) = ls := z; omega)
  have v1 : h_i (s_i h (P 16) 3 (iI ((S.2.1 - 1 : Nat) : Int))) (P 33) (S.2.1 - 1) = iI (S.2.2.1 (S.2.1 - 1)).1 := by
    rw [h_i_si, if_neg (fun e => by have h1 := f16.1; rw [← e, f33.1] at h1; exact absurd h1 (by decide))]
    exact X.2.2.2.2.1 _ (by omega)
  have r1 : h_r (s_i h (P 16) 3 (iI ((S.2.1 - 1 : Nat) : Int))) (P 34) (S.2.1 - 1) = some a := a1
  have m1 : hm (s_i h (P 16) 3 (iI ((S.2.1 - 1 : Nat) : Int))) = hm h := rfl
  generalize hg1 : s_i h (P 16) 3 (iI ((S.2.1 - 1 : Nat) : Int)) = g1 at *
  obtain ⟨ρ2, g2, d1, d2, d3, d4⟩ := chtake_is N hN (show ls + 1 + (S.2.2.1 (S.2.1 - 1)).1 ≠ 9 by omega) (X1.2.2.1 _ hc) (show lab (S.2.1 - 1) ≠ ls + 1 + (S.2.2.1 (S.2.1 - 1)).1 by omega) C1
  obtain ⟨X2, p2⟩ := X1.ccw hls hc d2 (x := (S.2.2.1 (S.2.1 - 1)).2) d3
  refine ⟨ρ2, g2, ?_, ?_, X2, by omega⟩
  · have vc : h_i h (P 33) (S.2.1 - 1) = iI (S.2.2.1 (S.2.1 - 1)).1 := X.2.2.2.2.1 _ (by omega)
    have hs1 : iI S.2.1 - (1 : Int32) = iI ((S.2.1 - 1 : Nat) : Int) := by rw [show (1 : Int32) = iI 1 from rfl, iI_sub]; congr 1; omega
    unfold f_State_takeBack f_State_takeBack_69 f_State_takeBack_72
    rw [gI_k f16.1, X.2.1.1, if_neg (show ¬ iI S.2.1 ≤ (0 : Int32) from fun z => absurd ((iI_le (b := 0) (by omega) (by omega)).mp z) (by omega)), gI_k f16.1, X.2.1.1, if_neg (show ¬ (40 : Int32) < iI S.2.1 from fun z => absurd ((iI_lt (a := 40) (by omega) (by omega)).mp z) (by omega)), gR_k f16.1, X.ref (i := 16) (k := 1) (j := 33) (by decide), gI_k f16.1, X.2.1.1, hs1, aI_iI (z := ((S.2.1 - 1 : Nat) : Int)) ⟨f33.1, f33.2.2.1⟩ (by omega) (by omega) (by omega), Int.toNat_natCast, vc, kcost_y N h (by omega), cl_s, if_neg (show ¬ (1 : Int32) = (0 : Int32) by decide), gI_k f16.1, X.2.1.1, hs1, pI_k f16.1, hg1, gR_k X1.f16.1, X1.ref (i := 16) (k := 1) (j := 33) (by decide), gI_k X1.f16.1, X1.2.1.1, aI_iI (z := ((S.2.1 - 1 : Nat) : Int)) ⟨X1.f33.1, X1.f33.2.2.1⟩ (by omega) (by omega) (by omega), Int.toNat_natCast, v1, gR_k X1.f16.1, X1.ref (i := 16) (k := 0) (j := 32) (by decide), aR_i X1.f32.1 X1.f32.2.2.1 hc (by omega), X1.chr hc, gI_k X1.f16.1, X1.2.1.1, cv_k X1.f16.1, actChain_y N X1 (by omega) r1, cl_s, cv_k (X1.2.2.1 _ hc).k, d1, cl_s]
  · have k1 : ∀ q, rg ls q → ls ≤ q ∧ q < ls + 50 := fun q z => by have : q = ls := z; omega
    have k3 : ∀ q, rg (ls + 1 + (S.2.2.1 (S.2.1 - 1)).1) q → ls ≤ q ∧ q < ls + 50 := fun q z => by have : q = ls + 1 + (S.2.2.1 (S.2.1 - 1)).1 := z; omega
    exact (t1.mono k1).trans (d2.mono k3)
end
