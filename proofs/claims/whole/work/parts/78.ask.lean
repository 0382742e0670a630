section
variable {ρ : Nat → Nat} {h : hS} {Q : Nat → Nat} {F : FT} {ks : List Nat}
theorem far_y (N : Nat) (h : hS) {t : Int} (ht : t = 100000000 ∨ t = -100000000) : f_K_isFar N h (iI (ft t)) = some (1, h) := by
  unfold f_K_isFar f_K_isFar_14 f_K_isFar_19
  rcases ht with e | e <;> subst e
  · rw [if_pos (show iI (ft 100000000) = (1000000000 : Int32) from rfl), bz_1]
  · rw [if_neg (show ¬ iI (ft (-100000000)) = (1000000000 : Int32) by decide), if_pos (show iI (ft (-100000000)) = (-1000000000 : Int32) from rfl), bz_1]
theorem far_n (N : Nat) (h : hS) {t : Int} (ht : -5000 ≤ t ∧ t ≤ 5000) : f_K_isFar N h (iI (ft t)) = some (0, h) := by
  have e : ft t = t := by unfold ft; rw [if_neg (by omega), if_neg (by omega)]
  unfold f_K_isFar f_K_isFar_19
  rw [e, if_neg (show ¬ iI t = (1000000000 : Int32) from fun q => absurd ((iI_eq (b := 1000000000) (by omega) (by omega)).mp q) (by omega)), if_neg (show ¬ iI t = (-1000000000 : Int32) from fun q => absurd ((iI_eq (b := -1000000000) (by omega) (by omega)).mp q) (by omega)), bz_0]
theorem turn_3 (Z : Nat → Int) (s : Int) : (zTurn Z s = 100000000 ∨ zTurn Z s = -100000000) ∨ (-5000 ≤ zTurn Z s ∧ zTurn Z s ≤ 5000) := by
  rcases zTurn_spec Z s with ⟨a, _⟩ | ⟨a, _⟩ | ⟨j, a1, a2, _⟩
  · exact Or.inl (Or.inr a)
  · exact Or.inl (Or.inl a)
  · exact Or.inr (by omega)
theorem nowhere_is (N : Nat) (h : hS) (Z : Nat → Int) (s : Int) : f_K_orNowhere N h (iI (ft (zTurn Z s))) = some (iI (zSome (zTurn Z s)), h) := by
  unfold f_K_orNowhere f_K_orNowhere_14
  rcases turn_3 Z s with q | q
  · rw [far_y N h q, cl_s, if_neg (by decide)]
    unfold zSome
    rw [if_neg (by omega)]; rfl
  · rw [far_n N h q, cl_s, if_pos rfl]
    have e : ft (zTurn Z s) = zTurn Z s := by unfold ft; rw [if_neg (by omega), if_neg (by omega)]
    rw [e]
    unfold zSome
    rw [if_pos (by omega)]
theorem near0 {Z : Nat → Int} (h : zVee Z) : min (max 0 (ft (zTurn Z 0))) (ft (zTurn Z 1)) = zNear (zTurn Z 0) (zTurn Z 1) 0 := by
  obtain ⟨⟨f1, f2⟩, f3⟩ := flat_ends h
  exact (ft_near f1 f2 f3 (y := 0) (by omega)).1
theorem flat_K (N : Nat) (hN : 20000 ≤ N) (K : KS ρ h Q F ks) {c w : Int} (hc : i32 c) (hw : i32 w) : KE ρ h Q F ks (if (0 ≤ c ∧ c ≤ 3) ∧ (0 ≤ w ∧ w ≤ 4) then iI (zFlat (zC F.1.1 c.toNat) w) else 0) (if (0 ≤ c ∧ c ≤ 3) ∧ (0 ≤ w ∧ w ≤ 4) then 0 else 1) (f_K_flat N h (Q 0) (iI c) (iI w)) := by
  unfold i32 at hw
  unfold f_K_flat f_K_flat_5
  by_cases h1 : 0 ≤ c ∧ c ≤ 3
  · have z := K.cz h1
    rw [cvT_k K.x.1, curve_y N K h1, clT_l]
    have low := clow_is N (by omega) z.1 (s := 0) (by omega)
    have high := chigh_is N (by omega) z.1 (s := 0) (by omega)
    have near := cnear_is N (by omega) z.1 (s := 0) (by omega)
    rw [cUnit_turn z.2.1.1 0] at low near
    rw [show -zC F.1.1 c.toNat 0 + 0 + 1 = -zC F.1.1 c.toNat 0 + 1 by omega, cUnit_turn z.2.1.1 1] at high near
    rw [near0 z.2.1] at near
    by_cases w5 : 0 ≤ w ∧ w ≤ 4
    · rw [if_pos ⟨h1, w5⟩, if_pos ⟨h1, w5⟩]
      unfold zFlat
      rcases (show w = 0 ∨ w = 1 ∨ w = 2 ∨ w = 3 ∨ w = 4 by omega) with e | e | e | e | e <;> subst e
      · rw [if_pos (show iI 0 = (0 : Int32) from rfl), cv_k z.1.k, show (0 : Int32) = iI 0 from rfl, low, cl_s, nowhere_is, cl_s, if_pos rfl]
        exact KE.ok K rfl
      · rw [if_neg (show ¬ iI 1 = (0 : Int32) by decide), if_pos (show iI 1 = (1 : Int32) from rfl), cv_k z.1.k, show (0 : Int32) = iI 0 from rfl, high, cl_s, nowhere_is, cl_s, if_neg (by decide), if_pos rfl]
        exact KE.ok K rfl
      · rw [if_neg (show ¬ iI 2 = (0 : Int32) by decide), if_neg (show ¬ iI 2 = (1 : Int32) by decide), if_pos (show iI 2 = (2 : Int32) from rfl), cv_k z.1.k, show (0 : Int32) = iI 0 from rfl, near, cl_s, if_neg (by decide), if_neg (by decide), if_pos rfl]
        exact KE.ok K rfl
      · rw [if_neg (show ¬ iI 3 = (0 : Int32) by decide), if_neg (show ¬ iI 3 = (1 : Int32) by decide), if_neg (show ¬ iI 3 = (2 : Int32) by decide), if_pos (show iI 3 = (3 : Int32) from rfl), gI_k z.1.k, z.1.f.1, if_neg (by decide), if_neg (by decide), if_neg (by decide), if_pos rfl]
        exact KE.ok K rfl
      · rw [if_neg (show ¬ iI 4 = (0 : Int32) by decide), if_neg (show ¬ iI 4 = (1 : Int32) by decide), if_neg (show ¬ iI 4 = (2 : Int32) by decide), if_neg (show ¬ iI 4 = (3 : Int32) by decide), if_pos (show iI 4 = (4 : Int32) from rfl), gI_k z.1.k, z.1.f.2.2.1, zK_sum, if_neg (by decide), if_neg (by decide), if_neg (by decide), if_neg (by decide)]
        exact KE.ok K rfl
    · rw [if_neg (fun q => w5 q.2), if_neg (fun q => w5 q.2), if_neg (show ¬ iI w = (0 : Int32) from fun q => absurd ((iI_eq (b := 0) hw (by omega)).mp q) (by omega)), if_neg (show ¬ iI w = (1 : Int32) from fun q => absurd ((iI_eq (b := 1) hw (by omega)).mp q) (by omega)), if_neg (show ¬ iI w = (2 : Int32) from fun q => absurd ((iI_eq (b := 2) hw (by omega)).mp q) (by omega)), if_neg (show ¬ iI w = (3 : Int32) from fun q => absurd ((iI_eq (b := 3) hw (by omega)).mp q) (by omega)), if_neg (show ¬ iI w = (4 : Int32) from fun q => absurd ((iI_eq (b := 4) hw (by omega)).mp q) (by omega))]
      exact KE.t1 K rfl
  · rw [cvT_k K.x.1, curve_n N h _ hc h1, clT_r, if_neg (fun q => h1 q.1), if_neg (fun q => h1 q.1)]
    exact KE.t1 K rfl
theorem kink_K (N : Nat) (K : KS ρ h Q F ks) {c i w : Int} (hc : i32 c) (hi : i32 i) (hw : i32 w) : KE ρ h Q F ks (iI ((kinkAns F.1.1 c i w).getD 0)) (if (kinkAns F.1.1 c i w).isSome then 0 else 1) (f_K_kink N h (Q 0) (iI c) (iI i) (iI w)) := by
  unfold i32 at hw hi
  unfold f_K_kink f_K_kink_5 f_K_kink_33 f_K_kink_29 f_K_kink_34 f_K_kink_37 f_K_kink_56
  have no : kinkAns F.1.1 c i w = none → KE ρ h Q F ks (iI ((kinkAns F.1.1 c i w).getD 0)) (if (kinkAns F.1.1 c i w).isSome then 0 else 1) (some ((.inr 1 : Int32 ⊕ Nat), th h)) := fun e => by
    rw [e]; exact KE.t1 K rfl
  by_cases h1 : 0 ≤ c ∧ c ≤ 3
  · have z := K.cz h1
    have hlen := z.1.len
    rw [cvT_k K.x.1, curve_y N K h1, clT_l]
    by_cases i0 : i < 0
    · rw [if_pos (show iI i < (0 : Int32) from (iI_lt (b := 0) hi (by omega)).mpr i0), such_0, clT_r]
      exact no (by unfold kinkAns; rw [if_neg (by omega)])
    · rw [if_neg (show ¬ iI i < (0 : Int32) from fun q => i0 ((iI_lt (b := 0) hi (by omega)).mp q)), gI_k z.1.k, z.1.f.1]
      by_cases il : (zK (zC F.1.1 c.toNat)).length ≤ i
      · rw [if_pos ((iI_le (by omega) hi).mpr il), such_0, clT_r]
        refine no ?_
        unfold kinkAns
        split
        · rw [List.getElem?_eq_none (by omega)]; rfl
        · rfl
      · rw [if_neg (fun q => il ((iI_le (by omega) hi).mp q))]
        have hin : i.toNat < (zK (zC F.1.1 c.toNat)).length := by omega
        have hie : (i.toNat : Int) = i := by omega
        have hp := placeOf_in N z.1 hin
        have hwt := weightOf_in N z.1 hin
        rw [hie] at hp hwt
        by_cases w0 : w = 0
        · subst w0
          have e : kinkAns F.1.1 c i 0 = some ((zK (zC F.1.1 c.toNat))[i.toNat]).1 := by
            unfold kinkAns
            rw [if_pos ⟨⟨h1, by omega⟩, by omega⟩, List.getElem?_eq_getElem hin]; rfl
          rw [if_pos (show iI 0 = (0 : Int32) from rfl), such_1, clT_l, if_pos (show iI 0 = (0 : Int32) from rfl), cv_k z.1.k, hp, cl_s, e]
          exact KE.ok K rfl
        · rw [if_neg (show ¬ iI w = (0 : Int32) from fun q => w0 ((iI_eq (b := 0) hw (by omega)).mp q))]
          by_cases w1 : w = 1
          · subst w1
            have e : kinkAns F.1.1 c i 1 = some ((zK (zC F.1.1 c.toNat))[i.toNat]).2 := by
              unfold kinkAns
              rw [if_pos ⟨⟨h1, by omega⟩, by omega⟩, List.getElem?_eq_getElem hin]; rfl
            rw [if_pos (show iI 1 = (1 : Int32) from rfl), such_1, clT_l, if_neg (show ¬ iI 1 = (0 : Int32) by decide), cv_k z.1.k, hwt, cl_s, e]
            exact KE.ok K rfl
          · rw [if_neg (show ¬ iI w = (1 : Int32) from fun q => w1 ((iI_eq (b := 1) hw (by omega)).mp q)), such_0, clT_r]
            exact no (by unfold kinkAns; rw [if_neg (by omega)])
  · rw [cvT_k K.x.1, curve_n N h _ hc h1, clT_r]
    exact no (by unfold kinkAns; rw [if_neg (fun q => h1 q.1.1)])
/-- of any slope the ends of where a table goes by it -/
theorem turn_le {Z : Nat → Int} (hn : zNn Z) (s : Int) (h1 : Z 0 ≤ s) (h2 : s ≤ zS Z 10001) : (zTurn Z s = -100000000 ∨ (-5000 ≤ zTurn Z s ∧ zTurn Z s ≤ 5000)) ∧ (zTurn Z (s + 1) = 100000000 ∨ (-5000 ≤ zTurn Z (s + 1) ∧ zTurn Z (s + 1) ≤ 5000)) ∧ zTurn Z s ≤ zTurn Z (s + 1) := by
  rcases zTurn_spec Z s with ⟨a1, a2⟩ | ⟨a1, a2⟩ | ⟨j, a1, a2, a3, a4⟩
  · rcases zTurn_spec Z (s + 1) with ⟨b1, b2⟩ | ⟨b1, b2⟩ | ⟨i, b1, b2, b3, b4⟩
    · exfalso; omega
    · exact ⟨Or.inl a1, Or.inl b1, by omega⟩
    · exact ⟨Or.inl a1, Or.inr (by omega), by omega⟩
  · exfalso; omega
  · rcases zTurn_spec Z (s + 1) with ⟨b1, b2⟩ | ⟨b1, b2⟩ | ⟨i, b1, b2, b3, b4⟩
    · exfalso; omega
    · exact ⟨Or.inr (by omega), Or.inl b1, by omega⟩
    · refine ⟨Or.inr (by omega), Or.inr (by omega), ?_⟩
      rcases Nat.lt_or_ge i j with q | q
      · exfalso
        have := zS_le hn (show i + 1 ≤ j by omega)
        omega
      · omega
theorem stand_near {Z : Nat → Int} (hn : zNn Z) {s : Int} (h1 : Z 0 ≤ s) (h2 : s ≤ zS Z 10001) : min (max 0 (ft (zTurn Z s))) (ft (zTurn Z (s + 1))) = zStand Z s := by
  obtain ⟨f1, f2, f3⟩ := turn_le hn s h1 h2
  exact (ft_near f1 f2 f3 (y := 0) (by omega)).1
theorem cstand_is (N : Nat) (hN : 20000 ≤ N) {l c : Nat} {Z : Nat → Int} (z : CZ ρ l h c Z) {s : Int} (hs : -100000 ≤ s ∧ s ≤ 100000) (h1 : Z 0 ≤ s) (h2 : s ≤ zS Z 10001) : f_Curve_nearestToZero N h c (iI s) = some (iI (zStand Z s), h) := by
  have near := cnear_is N (by omega) z.1 (s := s) hs
  rw [cUnit_turn z.2.1.1 s, show -Z 0 + s + 1 = -Z 0 + (s + 1) by omega, cUnit_turn z.2.1.1 (s + 1), stand_near z.2.1.1 h1 h2] at near
  exact near
theorem against_K (N : Nat) (hN : 20000 ≤ N) (K : KS ρ h Q F ks) {c x w : Int} (hc : i32 c) (hx : i32 x) (hw : i32 w) : KE ρ h Q F ks (if ((0 ≤ c ∧ c ≤ 3) ∧ (0 ≤ w ∧ w ≤ 1)) ∧ (-200 ≤ x ∧ x ≤ 200) then lI (zAg (zC F.1.1 c.toNat) x w) else 0) (if (0 ≤ c ∧ c ≤ 3) ∧ (0 ≤ w ∧ w ≤ 1) then (if -200 ≤ x ∧ x ≤ 200 then 0 else 2) else 1) (f_K_against N h (Q 0) (iI c) (iI x) (iI w)) := by
  unfold i32 at hw hx
  unfold f_K_against f_K_against_5 f_K_against_16 f_K_against_21
  by_cases h1 : 0 ≤ c ∧ c ≤ 3
  · have z := K.cz h1
    have ho := z.1.ok
    have hr := z.2.rng
    have hz0 := z.2.1.2.1
    rw [cvT_k K.x.1, curve_y N K h1, clT_l]
    have fin : (0 ≤ w ∧ w ≤ 1) → KE ρ h Q F ks (if ((0 ≤ c ∧ c ≤ 3) ∧ (0 ≤ w ∧ w ≤ 1)) ∧ (-200 ≤ x ∧ x ≤ 200) then lI (zAg (zC F.1.1 c.toNat) x w) else 0) (if (0 ≤ c ∧ c ≤ 3) ∧ (0 ≤ w ∧ w ≤ 1) then (if -200 ≤ x ∧ x ≤ 200 then 0 else 2) else 1) (f_K_against_24 N h (iI x) (iI w) (some (Q (20 + c.toNat)))) := by
      intro h3
      unfold f_K_against_24 f_K_against_42 f_K_against_43
      rw [show (-200 : Int32) = iI (-200) by decide]
      by_cases h2 : -200 ≤ x ∧ x ≤ 200
      · rw [if_pos ⟨⟨h1, h3⟩, h2⟩, if_pos ⟨h1, h3⟩, if_pos h2, if_neg (fun q => absurd ((iI_lt hx (by omega)).mp q) (by omega)), if_neg (show ¬ (200 : Int32) < iI x from fun q => absurd ((iI_lt (a := 200) (by omega) hx).mp q) (by omega)), fit_1, clT_l]
        unfold f_K_against_46 f_K_against_71 f_K_against_107
        rw [gI_k z.1.k, z.1.f.2.1, iI_neg]
        unfold zAg
        by_cases b1 : zC F.1.1 c.toNat 0 ≤ x
        · rw [if_neg (fun q => absurd ((iI_lt hx (by omega)).mp q) (by omega)), gI_k z.1.k, z.1.f.2.2.1, gI_k z.1.k, z.1.f.2.1, iI_sub, zK_sum]
          have hall := zS_all (zC F.1.1 c.toNat)
          have hwt := z.2.2.1.1
          have hss := zK_sum (zC F.1.1 c.toNat)
          have hnn := ho.nn
          rw [hss] at hnn
          generalize zWts (zC F.1.1 c.toNat) = W at hall hwt hnn ⊢
          rw [show W - -zC F.1.1 c.toNat 0 = zS (zC F.1.1 c.toNat) 10001 by omega]
          by_cases b2 : x ≤ zS (zC F.1.1 c.toNat) 10001
          · have hst := cstand_is N hN z (s := x) (by omega) b1 b2
            have hsr := zStand_r (zC F.1.1 c.toNat) x
            rw [if_pos ((iI_le hx (by omega)).mpr b2), cv_k z.1.k, hst, cl_s, if_pos ⟨b1, b2⟩]
            by_cases w0 : w = 0
            · rw [if_pos (show iI w = (0 : Int32) by rw [w0]; rfl), if_pos w0, cv_k z.1.k, cval_is N (by omega) z.1 (by omega), cl_s, kv_val z.2.1, iI_l hx.1 hx.2, iI_l (by omega) (by omega), lI_mul, lI_sub]
              exact KE.ok K rfl
            · rw [if_neg (show ¬ iI w = (0 : Int32) from fun q => w0 ((iI_eq (b := 0) hw (by omega)).mp q)), if_neg w0, iI_l (by omega) (by omega)]
              exact KE.ok K rfl
          · rw [if_neg (fun q => b2 ((iI_le hx (by omega)).mp q)), if_neg (fun q => b2 q.2)]
            exact KE.ok K rfl
        · rw [if_pos ((iI_lt hx (by omega)).mpr (by omega)), if_neg (fun q => b1 q.1)]
          exact KE.ok K rfl
      · rw [if_neg (fun q => h2 q.2), if_pos ⟨h1, h3⟩, if_neg h2]
        by_cases b1 : x < -200
        · rw [if_pos ((iI_lt hx (by omega)).mpr b1), fit_0, clT_r]
          exact KE.t2 K rfl
        · rw [if_neg (fun q => b1 ((iI_lt hx (by omega)).mp q)), if_pos (show (200 : Int32) < iI x from (iI_lt (a := 200) (by omega) hx).mpr (by omega)), fit_0, clT_r]
          exact KE.t2 K rfl
    by_cases w0 : w = 0
    · rw [if_pos (show iI w = (0 : Int32) by rw [w0]; rfl), such_1, clT_l]
      exact fin (by omega)
    · rw [if_neg (show ¬ iI w = (0 : Int32) from fun q => w0 ((iI_eq (b := 0) hw (by omega)).mp q))]
      by_cases w1 : w = 1
      · rw [if_pos (show iI w = (1 : Int32) by rw [w1]; rfl), such_1, clT_l]
        exact fin (by omega)
      · rw [if_neg (show ¬ iI w = (1 : Int32) from fun q => w1 ((iI_eq (b := 1) hw (by omega)).mp q)), such_0, clT_r, if_neg (fun q => by omega), if_neg (fun q => by omega)]
        exact KE.t1 K rfl
  · rw [cvT_k K.x.1, curve_n N h _ hc h1, clT_r, if_neg (fun q => h1 q.1.1), if_neg (fun q => h1 q.1)]
    exact KE.t1 K rfl
end
