/-! THE REFERENCE: alike, spared, heaviest, as RX -/
section
variable {ρ : Nat → Nat} {A : Nat → Nat} {m : Nat} {h g u : hS} {F F' : FT}
theorem alike_M (N : Nat) (hN : 30000 ≤ N) (X : RM ρ A m h F) {c d : Int} (hc : i32 c) (hd : i32 d) : (¬ ((0 ≤ c ∧ c ≤ 3) ∧ (0 ≤ d ∧ d ≤ 3)) → RX ρ A m h (0 : Int32) F 1 (f_M_alike N h m (iI c) (iI d))) ∧ (((0 ≤ c ∧ c ≤ 3) ∧ (0 ≤ d ∧ d ≤ 3)) → ∃ r : Int32, (tEq (zC F.1.1 c.toNat) (zC F.1.1 d.toNat) → r = 1) ∧ (¬ tEq (zC F.1.1 c.toNat) (zC F.1.1 d.toNat) → r = 0) ∧ RX ρ A m h r F 0 (f_M_alike N h m (iI c) (iI d))) := by
  have a := alike_S N (by omega) X.rs.1 (h_i h) X.rs.2 hc hd
  rw [w_i_self] at a
  refine ⟨fun q => X.ask (a.1 q), fun q => ?_⟩
  obtain ⟨r, r1, r2, r3⟩ := a.2 q
  exact ⟨r, r1, r2, X.ask r3⟩
theorem spared_M (N : Nat) (hN : 30000 ≤ N) (X : RM ρ A m h F) {c i : Int} (hc : i32 c) (hi : i32 i) : (isSt F.1.1 c i → ∃ v, zSpare F.1.1 c.toNat i.toNat v ∧ RX ρ A m h (lI v) F 0 (f_M_spared N h m (iI c) (iI i))) ∧ (¬ isSt F.1.1 c i → RX ρ A m h (0 : Int64) F 1 (f_M_spared N h m (iI c) (iI i))) := by
  have a := spared_S N (by omega) X.rs.1 (h_i h) X.rs.2 hc hi
  rw [w_i_self] at a
  refine ⟨fun q => ?_, fun q => X.ask (a.2 q)⟩
  obtain ⟨v, v1, v2⟩ := a.1 q
  exact ⟨v, v1, X.ask v2⟩
theorem heaviest_M (N : Nat) (hN : 30000 ≤ N) (X : RM ρ A m h F) {c i much : Int} (hc : i32 c) (hi : i32 i) (hm : i32 much) : (¬ (isSt F.1.1 c i ∧ ((F.1.1 c.toNat).2.1 i.toNat).1 ≤ 2) → RX ρ A m h (0 : Int32) F 1 (f_M_heaviest N h m (iI c) (iI i) (iI much))) ∧ ((isSt F.1.1 c i ∧ ((F.1.1 c.toNat).2.1 i.toNat).1 ≤ 2) → (¬ (0 ≤ much ∧ much ≤ 100000000) → RX ρ A m h (0 : Int32) F 2 (f_M_heaviest N h m (iI c) (iI i) (iI much))) ∧ ((0 ≤ much ∧ much ≤ 100000000) → ∃ v, zHeavy F.1.1 c.toNat i.toNat much 40 v ∧ RX ρ A m h (iI v) F 0 (f_M_heaviest N h m (iI c) (iI i) (iI much)))) := by
  have a := heaviest_S N (by omega) X.rs.1 (h_i h) X.rs.2 hc hi hm
  rw [w_i_self] at a
  refine ⟨fun q => X.ask (a.1 q), fun q => ⟨fun z => X.ask ((a.2 q).1 z), fun z => ?_⟩⟩
  obtain ⟨v, v1, v2⟩ := (a.2 q).2 z
  exact ⟨v, v1, X.ask v2⟩
end
