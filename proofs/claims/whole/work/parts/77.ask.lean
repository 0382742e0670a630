/-! ASKERS OF THE CLASS: their answers and codes, as the reference has them -/
def oc {α : Type} (a : α) (k : Int32) : α ⊕ Nat := if k = 0 then .inl a else if k = 1 then .inr 1 else .inr 2
def KE (ρ : Nat → Nat) (h : hS) (Q : Nat → Nat) (F : FT) (ks : List Nat) {α : Type} (a : α) (k : Int32) (r : Option ((α ⊕ Nat) × hS)) : Prop := ∃ ρ' g, r = some (oc a k, g) ∧ KS ρ' g Q F ks ∧ tr ρ h RA ρ' g ∧ hm g + brs g (Q 4) ≤ hm h + brs h (Q 4) + 19 ∧ (k ≠ 0 → ∃ g0, g = th g0 ∧ KS ρ' g0 Q F ks ∧ tr ρ h RA ρ' g0 ∧ hm g0 + brs g0 (Q 4) ≤ hm h + brs h (Q 4))
section
variable {β α : Type} {h : hS} {c ci : Nat}
theorem cvT_k {f : Nat → Option ((α ⊕ Nat) × hS)} {K : α → hS → Option ((β ⊕ Nat) × hS)} (hk : h_k h c = ci + 1) : cvT h (some c) ci f K = clT (f c) K := by
  show (if h_k h c = ci + 1 then clT (f c) K else none) = _
  rw [if_pos hk]
theorem clT_l {r : α} {g : hS} {K : α → hS → Option ((β ⊕ Nat) × hS)} : clT (some (.inl r, g)) K = K r g := rfl
theorem clT_r {k : Nat} {g : hS} {K : α → hS → Option ((β ⊕ Nat) × hS)} : clT (some ((.inr k : α ⊕ Nat), g)) K = some (.inr k, g) := rfl
end
theorem kcost_y (N : Nat) (h : hS) {c : Int} (hc : 0 ≤ c ∧ c ≤ 3) : f_K_isCost N h (iI c) = some (1, h) := by
  unfold f_K_isCost f_K_isCost_14
  rw [if_neg (show ¬ iI c < (0 : Int32) from fun q => absurd ((iI_lt (b := 0) (by omega) (by omega)).mp q) (by omega)), if_neg (show ¬ (4 : Int32) ≤ iI c from fun q => absurd ((iI_le (a := 4) (by omega) (by omega)).mp q) (by omega)), bz_1]
theorem kcost_n (N : Nat) (h : hS) {c : Int} (hi : i32 c) (hc : ¬ (0 ≤ c ∧ c ≤ 3)) : f_K_isCost N h (iI c) = some (0, h) := by
  unfold i32 at hi
  unfold f_K_isCost f_K_isCost_13 f_K_isCost_14
  by_cases h0 : c < 0
  · rw [if_pos (show iI c < (0 : Int32) from (iI_lt (b := 0) hi (by omega)).mpr h0), bz_0]
  · rw [if_neg (show ¬ iI c < (0 : Int32) from fun q => h0 ((iI_lt (b := 0) hi (by omega)).mp q)), if_pos (show (4 : Int32) ≤ iI c from (iI_le (a := 4) (by omega) hi).mpr (by omega)), bz_0]
theorem kx_y (N : Nat) (h : hS) {c : Int} (hc : -100000 ≤ c ∧ c ≤ 100000) : f_K_isX N h (iI c) = some (1, h) := by
  unfold f_K_isX f_K_isX_19
  rw [if_neg (show ¬ iI c < (-100000 : Int32) from fun q => absurd ((iI_lt (b := -100000) (by omega) (by omega)).mp q) (by omega)), if_neg (show ¬ (100000 : Int32) < iI c from fun q => absurd ((iI_lt (a := 100000) (by omega) (by omega)).mp q) (by omega)), bz_1]
theorem kx_n (N : Nat) (h : hS) {c : Int} (hi : i32 c) (hc : ¬ (-100000 ≤ c ∧ c ≤ 100000)) : f_K_isX N h (iI c) = some (0, h) := by
  unfold i32 at hi
  unfold f_K_isX f_K_isX_18 f_K_isX_19
  by_cases h0 : c < -100000
  · rw [if_pos (show iI c < (-100000 : Int32) from (iI_lt (b := -100000) hi (by omega)).mpr h0), bz_0]
  · rw [if_neg (show ¬ iI c < (-100000 : Int32) from fun q => h0 ((iI_lt (b := -100000) hi (by omega)).mp q)), if_pos (show (100000 : Int32) < iI c from (iI_lt (a := 100000) (by omega) hi).mpr (by omega)), bz_0]
theorem such_1 (N : Nat) (h : hS) : f_K_needSuch N h (1 : Int32) = some (.inl (), h) := rfl
theorem such_0 (N : Nat) (h : hS) : f_K_needSuch N h (0 : Int32) = some (.inr 1, th h) := rfl
theorem fit_1 (N : Nat) (h : hS) : f_K_needFit N h (1 : Int32) = some (.inl (), h) := rfl
theorem fit_0 (N : Nat) (h : hS) : f_K_needFit N h (0 : Int32) = some (.inr 2, th h) := rfl
theorem ncost_y (N : Nat) (h : hS) {c : Int} (hc : 0 ≤ c ∧ c ≤ 3) : f_K_needCost N h (iI c) = some (.inl (), h) := by
  unfold f_K_needCost f_K_needCost_7
  rw [kcost_y N h hc, cl_s, such_1, clT_l]
theorem ncost_n (N : Nat) (h : hS) {c : Int} (hi : i32 c) (hc : ¬ (0 ≤ c ∧ c ≤ 3)) : f_K_needCost N h (iI c) = some (.inr 1, th h) := by
  unfold f_K_needCost f_K_needCost_7
  rw [kcost_n N h hi hc, cl_s, such_0, clT_r]
theorem nx_y (N : Nat) (h : hS) {c : Int} (hc : -100000 ≤ c ∧ c ≤ 100000) : f_K_needX N h (iI c) = some (.inl (), h) := by
  unfold f_K_needX f_K_needX_7
  rw [kx_y N h hc, cl_s, fit_1, clT_l]
theorem nx_n (N : Nat) (h : hS) {c : Int} (hi : i32 c) (hc : ¬ (-100000 ≤ c ∧ c ≤ 100000)) : f_K_needX N h (iI c) = some (.inr 2, th h) := by
  unfold f_K_needX f_K_needX_7
  rw [kx_n N h hi hc, cl_s, fit_0, clT_r]
section
variable {ρ : Nat → Nat} {h : hS} {Q : Nat → Nat} {F : FT} {ks : List Nat}
theorem KS.ref (K : KS ρ h Q F ks) {i k j : Nat} (hi : (i, k, j) ∈ refK) : h_r h (Q i) k = some (Q j) := K.1.2.1 _ hi
theorem KS.ko (K : KS ρ h Q F ks) {i k l n : Nat} (hi : (i, k, l, n) ∈ fixK) : h_k h (Q i) = k ∧ h_n h (Q i) = n := ⟨(K.1.1 _ hi).1, (K.1.1 _ hi).2.2.1⟩
theorem KS.so (K : KS ρ h Q F ks) {i k l n : Nat} (hi : (i, k, l, n) ∈ fixS 100) : h_k h (Q i) = k ∧ h_n h (Q i) = n := ⟨(K.2.2.2.1.1.1.1 _ hi).1, (K.2.2.2.1.1.1.1 _ hi).2.2.1⟩
theorem KS.sref (K : KS ρ h Q F ks) {i k j : Nat} (hi : (i, k, j) ∈ refS) : h_r h (Q i) k = some (Q j) := K.2.2.2.1.1.1.2.1 _ hi
theorem n4 {c : Int} (hc : 0 ≤ c ∧ c ≤ 3) : c.toNat < 4 ∧ (c.toNat : Int) = c := ⟨by omega, by omega⟩
theorem curve_y (N : Nat) (K : KS ρ h Q F ks) {c : Int} (hc : 0 ≤ c ∧ c ≤ 3) : f_K_curveOf N h (Q 0) (iI c) = some (.inl (some (Q (20 + c.toNat))), h) := by
  obtain ⟨c1, c2⟩ := n4 hc
  unfold f_K_curveOf f_K_curveOf_4
  rw [ncost_y N h hc, clT_l, gR_k K.x.1, K.ref (i := 0) (k := 13) (j := 13) (by decide)]
  have hk := K.ko (i := 13) (k := 63) (l := 6) (n := 4) (by decide)
  rw [← c2, aR_i hk.1 hk.2 (by omega) (by omega)]
  rcases (show c.toNat = 0 ∨ c.toNat = 1 ∨ c.toNat = 2 ∨ c.toNat = 3 by omega) with e | e | e | e <;> rw [e]
  · rw [K.ref (i := 13) (k := 0) (j := 20) (by decide)]; rfl
  · rw [K.ref (i := 13) (k := 1) (j := 21) (by decide)]; rfl
  · rw [K.ref (i := 13) (k := 2) (j := 22) (by decide)]; rfl
  · rw [K.ref (i := 13) (k := 3) (j := 23) (by decide)]; rfl
theorem curve_n (N : Nat) (h : hS) (x : Nat) {c : Int} (hi : i32 c) (hc : ¬ (0 ≤ c ∧ c ≤ 3)) : f_K_curveOf N h x (iI c) = some (.inr 1, th h) := by
  unfold f_K_curveOf
  rw [ncost_n N h hi hc, clT_r]
theorem chain_y (N : Nat) (K : KS ρ h Q F ks) {c : Int} (hc : 0 ≤ c ∧ c ≤ 3) : f_K_chainOf N h (Q 0) (iI c) = some (.inl (some (Q (40 + c.toNat))), h) := by
  obtain ⟨c1, c2⟩ := n4 hc
  unfold f_K_chainOf f_K_chainOf_4
  have h16 := K.so (i := 16) (k := 8) (l := 100) (n := 0) (by decide)
  have hk := K.so (i := 32) (k := 62) (l := 100) (n := 4) (by decide)
  rw [ncost_y N h hc, clT_l, gR_k K.x.1, K.ref (i := 0) (k := 16) (j := 16) (by decide), gR_k (show h_k h (Q 16) = 7 + 1 from h16.1), K.sref (i := 16) (k := 0) (j := 32) (by decide), ← c2, aR_i hk.1 hk.2 (by omega) (by omega)]
  rcases (show c.toNat = 0 ∨ c.toNat = 1 ∨ c.toNat = 2 ∨ c.toNat = 3 by omega) with e | e | e | e <;> rw [e]
  · rw [K.sref (i := 32) (k := 0) (j := 40) (by decide)]; rfl
  · rw [K.sref (i := 32) (k := 1) (j := 41) (by decide)]; rfl
  · rw [K.sref (i := 32) (k := 2) (j := 42) (by decide)]; rfl
  · rw [K.sref (i := 32) (k := 3) (j := 43) (by decide)]; rfl
theorem chain_n (N : Nat) (h : hS) (x : Nat) {c : Int} (hi : i32 c) (hc : ¬ (0 ≤ c ∧ c ≤ 3)) : f_K_chainOf N h x (iI c) = some (.inr 1, th h) := by
  unfold f_K_chainOf
  rw [ncost_n N h hi hc, clT_r]
theorem KS.cz (K : KS ρ h Q F ks) {c : Int} (hc : 0 ≤ c ∧ c ≤ 3) : CZ ρ (20 + c.toNat) h (Q (20 + c.toNat)) (zC F.1.1 c.toNat) := K.2.2.1 _ (n4 hc).1
theorem KS.ch (K : KS ρ h Q F ks) {c : Int} (hc : 0 ≤ c ∧ c ≤ 3) : CH ρ (101 + c.toNat) h (Q (40 + c.toNat)) (F.1.1 c.toNat).1 (F.1.1 c.toNat).2.1 (F.1.1 c.toNat).2.2 := by
  have := K.2.2.2.1.1.2.2.1 _ (n4 hc).1
  rw [show 100 + 1 + c.toNat = 101 + c.toNat by omega] at this
  exact this
theorem KS.v (K : KS ρ h Q F ks) {c : Int} (hc : 0 ≤ c ∧ c ≤ 3) : vC (F.1.1 c.toNat) := K.2.2.2.1.2.1 _ (n4 hc).1
variable {α : Type}
theorem KE.ok (K : KS ρ h Q F ks) {a : α} {r : Option ((α ⊕ Nat) × hS)} (e : r = some (.inl a, h)) : KE ρ h Q F ks a 0 r := ⟨ρ, h, e, K, tr.rf, by omega, fun z => absurd rfl z⟩
theorem KE.t1 (K : KS ρ h Q F ks) {a : α} {r : Option ((α ⊕ Nat) × hS)} (e : r = some (.inr 1, th h)) : KE ρ h Q F ks a 1 r := ⟨ρ, th h, e, K.thw.1, tr_th, by rw [K.thw.2, hm_th]; omega, fun _ => ⟨h, rfl, K, tr.rf, Nat.le_refl _⟩⟩
theorem KE.t2 (K : KS ρ h Q F ks) {a : α} {r : Option ((α ⊕ Nat) × hS)} (e : r = some (.inr 2, th h)) : KE ρ h Q F ks a 2 r := ⟨ρ, th h, e, K.thw.1, tr_th, by rw [K.thw.2, hm_th]; omega, fun _ => ⟨h, rfl, K, tr.rf, Nat.le_refl _⟩⟩
theorem at_K (N : Nat) (hN : 20000 ≤ N) (K : KS ρ h Q F ks) {c x : Int} (hc : i32 c) (hx : i32 x) : KE ρ h Q F ks (if (0 ≤ c ∧ c ≤ 3) ∧ (-100000 ≤ x ∧ x ≤ 100000) then lI (zVal (zC F.1.1 c.toNat) x) else 0) (if 0 ≤ c ∧ c ≤ 3 then (if -100000 ≤ x ∧ x ≤ 100000 then 0 else 2) else 1) (f_K_at N h (Q 0) (iI c) (iI x)) := by
  unfold f_K_at f_K_at_5 f_K_at_10
  by_cases h1 : 0 ≤ c ∧ c ≤ 3
  · rw [cvT_k K.x.1, curve_y N K h1, clT_l, if_pos h1]
    have z := K.cz h1
    by_cases h2 : -100000 ≤ x ∧ x ≤ 100000
    · rw [nx_y N h h2, clT_l, if_pos ⟨h1, h2⟩, if_pos h2, cv_k z.1.k, cval_is N (by omega) z.1 (by omega), cl_s, kv_val z.2.1]
      exact KE.ok K rfl
    · rw [nx_n N h hx h2, clT_r, if_neg (fun q => h2 q.2), if_neg h2]
      exact KE.t2 K rfl
  · rw [cvT_k K.x.1, curve_n N h _ hc h1, clT_r, if_neg (fun q => h1 q.1), if_neg h1]
    exact KE.t1 K rfl
theorem least_K (N : Nat) (K : KS ρ h Q F ks) {c : Int} (hc : i32 c) : KE ρ h Q F ks (if 0 ≤ c ∧ c ≤ 3 then lI (zLeast (zC F.1.1 c.toNat)) else 0) (if 0 ≤ c ∧ c ≤ 3 then 0 else 1) (f_K_least N h (Q 0) (iI c)) := by
  unfold f_K_least f_K_least_5
  by_cases h1 : 0 ≤ c ∧ c ≤ 3
  · have z := K.cz h1
    rw [cvT_k K.x.1, curve_y N K h1, clT_l, if_pos h1, if_pos h1, gJ_k z.1.k, z.1.f.2.2.2]
    exact KE.ok K rfl
  · rw [cvT_k K.x.1, curve_n N h _ hc h1, clT_r, if_neg h1, if_neg h1]
    exact KE.t1 K rfl
theorem slope_K (N : Nat) (hN : 20000 ≤ N) (K : KS ρ h Q F ks) {c x w : Int} (hc : i32 c) (hx : i32 x) (hw : i32 w) : KE ρ h Q F ks (if ((0 ≤ c ∧ c ≤ 3) ∧ (0 ≤ w ∧ w ≤ 1)) ∧ (-100000 ≤ x ∧ x ≤ 100000) then iI (zVal (zC F.1.1 c.toNat) (x + w) - zVal (zC F.1.1 c.toNat) (x + w - 1)) else 0) (if (0 ≤ c ∧ c ≤ 3) ∧ (0 ≤ w ∧ w ≤ 1) then (if -100000 ≤ x ∧ x ≤ 100000 then 0 else 2) else 1) (f_K_slope N h (Q 0) (iI c) (iI x) (iI w)) := by
  unfold i32 at hw
  unfold f_K_slope f_K_slope_5 f_K_slope_16 f_K_slope_21 f_K_slope_24 f_K_slope_28 f_K_slope_41
  by_cases h1 : 0 ≤ c ∧ c ≤ 3
  · have z := K.cz h1
    rw [cvT_k K.x.1, curve_y N K h1, clT_l]
    have fin : ∀ v : Int, (0 ≤ w ∧ w ≤ 1) → v = x + w - 1 → KE ρ h Q F ks (if ((0 ≤ c ∧ c ≤ 3) ∧ (0 ≤ w ∧ w ≤ 1)) ∧ (-100000 ≤ x ∧ x ≤ 100000) then iI (zVal (zC F.1.1 c.toNat) (x + w) - zVal (zC F.1.1 c.toNat) (x + w - 1)) else 0) (if (0 ≤ c ∧ c ≤ 3) ∧ (0 ≤ w ∧ w ≤ 1) then (if -100000 ≤ x ∧ x ≤ 100000 then 0 else 2) else 1) (clT (f_K_needX N h (iI x)) fun _ h2 => cv h2 (some (Q (20 + c.toNat))) 3 (fun a => f_Curve_slopeBehind N h2 a (iI v)) fun v1 h3 => some (.inl v1, h3)) := by
      intro v h3 hv
      by_cases h2 : -100000 ≤ x ∧ x ≤ 100000
      · rw [nx_y N h h2, clT_l, if_pos ⟨⟨h1, h3⟩, h2⟩, if_pos ⟨h1, h3⟩, if_pos h2, cv_k z.1.k, cslope_is N (by omega) z.1 (by omega), cl_s, kSl_val z.2.1.1, hv, show x + w - 1 + 1 = x + w by omega]
        exact KE.ok K rfl
      · rw [nx_n N h hx h2, clT_r, if_neg (fun q => h2 q.2), if_pos ⟨h1, h3⟩, if_neg h2]
        exact KE.t2 K rfl
    by_cases w0 : w = 0
    · rw [if_pos (show iI w = (0 : Int32) by rw [w0]; rfl), such_1, clT_l]
      have := fin (x - 1) (by omega) (by omega)
      simp only [if_pos (show iI w = (0 : Int32) by rw [w0]; rfl)]
      rw [show iI x - (1 : Int32) = iI (x - 1) by rw [show (1 : Int32) = iI 1 from rfl, iI_sub]]
      exact this
    · rw [if_neg (show ¬ iI w = (0 : Int32) from fun q => w0 ((iI_eq (b := 0) hw (by omega)).mp q))]
      by_cases w1 : w = 1
      · rw [if_pos (show iI w = (1 : Int32) by rw [w1]; rfl), such_1, clT_l]
        have := fin x (by omega) (by omega)
        simp only [if_neg (show ¬ iI w = (0 : Int32) from fun q => w0 ((iI_eq (b := 0) hw (by omega)).mp q))]
        exact this
      · rw [if_neg (show ¬ iI w = (1 : Int32) from fun q => w1 ((iI_eq (b := 1) hw (by omega)).mp q)), such_0, clT_r, if_neg (fun q => by omega), if_neg (fun q => by omega)]
        exact KE.t1 K rfl
  · rw [cvT_k K.x.1, curve_n N h _ hc h1, clT_r, if_neg (fun q => h1 q.1.1), if_neg (fun q => h1 q.1)]
    exact KE.t1 K rfl
end
