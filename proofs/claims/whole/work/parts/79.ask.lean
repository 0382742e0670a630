/-- a table is told by its kinks, its left, its least -/
theorem tEq_iff {Z Y : Nat → Int} (hZ : zVee Z) (hY : zVee Y) : tEq Z Y ↔ zK Z = zK Y ∧ Z 0 = Y 0 ∧ zLeast Z = zLeast Y := by
  constructor
  · intro e
    exact ⟨zK_congr e, e 0 (by omega), zLeast_congr e⟩
  · intro ⟨h1, h2, h3⟩ k hk
    by_cases k0 : k = 0
    · rw [k0]; exact h2
    by_cases k1 : k = 1
    · have e1 := kv_val hZ (-5000)
      have e2 := kv_val hY (-5000)
      rw [h1, h2, h3, e2] at e1
      have e3 : zVal Z (-5000) = Z 1 := by unfold zVal; rw [if_pos (by omega)]; simp
      have e4 : zVal Y (-5000) = Y 1 := by unfold zVal; rw [if_pos (by omega)]; simp
      rw [e3, e4] at e1
      rw [k1]; exact e1.symm
    · have w1 := zL_W Z (k - 2)
      have w2 := zL_W Y (k - 2)
      rw [← zK_F, h1, zK_F, w2] at w1
      unfold zW at w1
      rw [if_pos (by omega), if_pos (by omega), show 2 + (k - 2) = k by omega] at w1
      exact w1.symm
section
variable {ρ : Nat → Nat} {l l' : Nat} {h : hS} {c d : Nat} {L M : List (Int × Int)} {lf bt lf' bt' : Int}
theorem same_loop (N : Nat) (C : CR ρ l h c L lf bt) (D : CR ρ l' h d M lf' bt') (hlm : L.length = M.length) : ∀ (q i fuel : Nat), i + q = L.length → ∃ v : Int32, f_Curve_isSameAs_38 N (q + (fuel + 1)) h c (some d) (iI i) = some (v, h) ∧ (v = 0 ∨ v = 1) ∧ (L.drop i = M.drop i → v = 1) ∧ (v = 1 → L.drop i = M.drop i) := by
  have hlen := C.len
  intro q
  induction q with
  | zero =>
    intro i fuel hi
    refine ⟨1, ?_, Or.inr rfl, fun _ => rfl, fun _ => ?_⟩
    · rw [Nat.zero_add]
      unfold f_Curve_isSameAs_38
      rw [gI_k C.k, C.f.1, if_pos ((iI_le (by omega) (by omega)).mpr (by omega)), bz_1]
    · rw [List.drop_eq_nil_of_le (by omega), List.drop_eq_nil_of_le (by omega)]
  | succ q ih =>
    intro i fuel hi
    have hi1 : i < L.length := by omega
    have hi2 : i < M.length := by omega
    have p1 := C.ok.1 _ (List.getElem_mem hi1)
    have p2 := D.ok.1 _ (List.getElem_mem hi2)
    have w1 := C.ok.w (List.getElem_mem hi1)
    have w2 := D.ok.w (List.getElem_mem hi2)
    rw [show q + 1 + (fuel + 1) = (q + (fuel + 1)) + 1 by omega]
    unfold f_Curve_isSameAs_38 f_Curve_isSameAs_72
    rw [gI_k C.k, C.f.1, if_neg (fun z => absurd ((iI_le (by omega) (by omega)).mp z) (by omega)), cv_k C.k, placeOf_in N C hi1, cl_s, cv_k D.k, placeOf_in N D hi2, cl_s]
    rw [List.drop_eq_getElem_cons hi1, List.drop_eq_getElem_cons hi2]
    by_cases e1 : (L[i]).1 = (M[i]).1
    · rw [if_pos (by rw [e1]), cv_k C.k, weightOf_in N C hi1, cl_s, cv_k D.k, weightOf_in N D hi2, cl_s]
      by_cases e2 : (L[i]).2 = (M[i]).2
      · rw [if_pos (by rw [e2]), bn_i, show (1 : Int32) = iI 1 from rfl, iI_add, show (i : Int) + 1 = ((i + 1 : Nat) : Int) by omega]
        obtain ⟨v, a1, a2, a3, a4⟩ := ih (i + 1) fuel (by omega)
        refine ⟨v, a1, a2, fun z => a3 ?_, fun z => ?_⟩
        · injection z
        · rw [a4 z, Prod.ext e1 e2]
      · rw [if_neg (fun z => e2 ((iI_eq (by omega) (by omega)).mp z)), bz_0]
        exact ⟨0, rfl, Or.inl rfl, fun z => by injection z with z _; exact absurd (by rw [z]) e2, fun z => absurd z (by decide)⟩
    · rw [if_neg (fun z => e1 ((iI_eq (by omega) (by omega)).mp z)), bz_0]
      exact ⟨0, rfl, Or.inl rfl, fun z => by injection z with z _; exact absurd (by rw [z]) e1, fun z => absurd z (by decide)⟩
theorem same_is (N : Nat) (hN : 10000 ≤ N) (C : CR ρ l h c L lf bt) (D : CR ρ l' h d M lf' bt') : ∃ v : Int32, f_Curve_isSameAs N h c (some d) = some (v, h) ∧ (L = M ∧ lf = lf' ∧ bt = bt' → v = 1) ∧ (¬ (L = M ∧ lf = lf' ∧ bt = bt') → v = 0) := by
  have hl1 := C.len
  have hl2 := D.len
  have o1 := C.ok
  have o2 := D.ok
  unfold f_Curve_isSameAs f_Curve_isSameAs_34
  rw [gI_k C.k, C.f.1, gI_k D.k, D.f.1]
  by_cases e1 : L.length = M.length
  · rw [if_pos (by rw [e1]), gI_k C.k, C.f.2.1, gI_k D.k, D.f.2.1]
    by_cases e2 : lf = lf'
    · rw [if_pos (by rw [e2]), gJ_k C.k, C.f.2.2.2, gJ_k D.k, D.f.2.2.2]
      by_cases e3 : bt = bt'
      · rw [if_pos ((lg_eq0 _ _).mpr (by rw [e3]))]
        obtain ⟨fuel, hfu⟩ : ∃ fuel, N = L.length + (fuel + 1) := ⟨N - L.length - 1, by omega⟩
        obtain ⟨v, a1, a2, a3, a4⟩ := same_loop N C D e1 L.length 0 fuel (by omega)
        rw [← hfu] at a1
        rw [List.drop_zero, List.drop_zero] at a3 a4
        refine ⟨v, a1, fun z => a3 z.1, fun z => a2.resolve_right (fun y => z ⟨a4 y, e2, e3⟩)⟩
      · rw [if_neg (fun z => e3 ((lI_eq (by have := o1.2.2.2; omega) (by have := o2.2.2.2; omega)).mp ((lg_eq0 _ _).mp z))), bz_0]
        exact ⟨0, rfl, fun z => absurd z.2.2 e3, fun _ => rfl⟩
    · rw [if_neg (fun z => e2 ((iI_eq (by have := o1.2.2.1; omega) (by have := o2.2.2.1; omega)).mp z)), bz_0]
      exact ⟨0, rfl, fun z => absurd z.2.1 e2, fun _ => rfl⟩
  · rw [if_neg (fun z => e1 (by have := (iI_eq (by omega) (by omega)).mp z; omega)), bz_0]
    exact ⟨0, rfl, fun z => absurd (by rw [z.1]) e1, fun _ => rfl⟩
end
section
variable {ρ : Nat → Nat} {h : hS} {Q : Nat → Nat} {F : FT} {ks : List Nat}
theorem alike_K (N : Nat) (hN : 20000 ≤ N) (K : KS ρ h Q F ks) {c d : Int} (hc : i32 c) (hd : i32 d) : (¬ ((0 ≤ c ∧ c ≤ 3) ∧ (0 ≤ d ∧ d ≤ 3)) → KE ρ h Q F ks (0 : Int32) 1 (f_K_alike N h (Q 0) (iI c) (iI d))) ∧ (((0 ≤ c ∧ c ≤ 3) ∧ (0 ≤ d ∧ d ≤ 3)) → ∃ r : Int32, (tEq (zC F.1.1 c.toNat) (zC F.1.1 d.toNat) → r = 1) ∧ (¬ tEq (zC F.1.1 c.toNat) (zC F.1.1 d.toNat) → r = 0) ∧ KE ρ h Q F ks r 0 (f_K_alike N h (Q 0) (iI c) (iI d))) := by
  unfold f_K_alike f_K_alike_5 f_K_alike_10 f_K_alike_21
  constructor
  · intro hn
    by_cases h1 : 0 ≤ c ∧ c ≤ 3
    · have h2 : ¬ (0 ≤ d ∧ d ≤ 3) := fun q => hn ⟨h1, q⟩
      rw [cvT_k K.x.1, curve_y N K h1, clT_l, cvT_k K.x.1, curve_n N h _ hd h2, clT_r]
      exact KE.t1 K rfl
    · rw [cvT_k K.x.1, curve_n N h _ hc h1, clT_r]
      exact KE.t1 K rfl
  · intro ⟨h1, h2⟩
    have z1 := K.cz h1
    have z2 := K.cz h2
    obtain ⟨v, a1, a2, a3⟩ := same_is N (by omega) z1.1 z2.1
    have hiff := tEq_iff z1.2.1 z2.2.1
    have hiff2 : tEq (zC F.1.1 c.toNat) (zC F.1.1 d.toNat) ↔ (zK (zC F.1.1 c.toNat) = zK (zC F.1.1 d.toNat) ∧ -zC F.1.1 c.toNat 0 = -zC F.1.1 d.toNat 0 ∧ zLeast (zC F.1.1 c.toNat) = zLeast (zC F.1.1 d.toNat)) := hiff.trans ⟨fun q => ⟨q.1, by omega, q.2.2⟩, fun q => ⟨q.1, by omega, q.2.2⟩⟩
    rw [cvT_k K.x.1, curve_y N K h1, clT_l, cvT_k K.x.1, curve_y N K h2, clT_l, cv_k z1.1.k, a1, cl_s]
    by_cases e : tEq (zC F.1.1 c.toNat) (zC F.1.1 d.toNat)
    · rw [a2 (hiff2.mp e), if_neg (by decide)]
      exact ⟨1, fun _ => rfl, fun q => absurd e q, KE.ok K rfl⟩
    · rw [a3 (fun q => e (hiff2.mpr q)), if_pos rfl]
      exact ⟨0, fun q => absurd q e, fun _ => rfl, KE.ok K rfl⟩
theorem step_y (N : Nat) (K : KS ρ h Q F ks) {c i : Int} (q : isSt F.1.1 c i) : ∃ st, f_K_stepOf N h (Q 0) (iI c) (iI i) = some (.inl (some st), h) ∧ ST ρ h st ((F.1.1 c.toNat).2.1 i.toNat) ((F.1.1 c.toNat).2.2 i.toNat) := by
  have C := K.ch q.1
  obtain ⟨st, s1, s2⟩ := stepAt_in N C (show i.toNat < (F.1.1 c.toNat).1 by have := q.2; omega)
  rw [show (i.toNat : Int) = i by have := q.2; omega] at s1
  refine ⟨st, ?_, s2⟩
  unfold f_K_stepOf f_K_stepOf_5 f_K_stepOf_19 f_K_stepOf_22
  rw [cvT_k K.x.1, chain_y N K q.1, clT_l, cv_k C.k, s1, cl_s, if_neg (by simp), such_1, clT_l]
theorem step_n (N : Nat) (K : KS ρ h Q F ks) {c i : Int} (hc : i32 c) (hi : i32 i) (q : ¬ isSt F.1.1 c i) : f_K_stepOf N h (Q 0) (iI c) (iI i) = some (.inr 1, th h) := by
  unfold f_K_stepOf f_K_stepOf_5 f_K_stepOf_19 f_K_stepOf_22
  by_cases h1 : 0 ≤ c ∧ c ≤ 3
  · have C := K.ch h1
    rw [cvT_k K.x.1, chain_y N K h1, clT_l, cv_k C.k, stepAt_out N C (fun z => q ⟨h1, z⟩) hi, cl_s, if_pos rfl, such_0, clT_r]
  · rw [cvT_k K.x.1, chain_n N h _ hc h1, clT_r]
theorem stepq_K (N : Nat) (K : KS ρ h Q F ks) {c i w : Int} (hc : i32 c) (hi : i32 i) (hw : i32 w) : (isSt F.1.1 c i ∧ (0 ≤ w ∧ w ≤ 2) → KE ρ h Q F ks (if w = 0 then iI ((F.1.1 c.toNat).2.1 i.toNat).1 else if w = 1 then iI ((F.1.1 c.toNat).2.1 i.toNat).2.1 else iI ((F.1.1 c.toNat).2.1 i.toNat).2.2) 0 (f_K_step N h (Q 0) (iI c) (iI i) (iI w))) ∧ (¬ (isSt F.1.1 c i ∧ (0 ≤ w ∧ w ≤ 2)) → KE ρ h Q F ks (0 : Int32) 1 (f_K_step N h (Q 0) (iI c) (iI i) (iI w))) := by
  unfold i32 at hw
  unfold f_K_step f_K_step_6 f_K_step_21 f_K_step_22 f_K_step_25 f_K_step_53
  constructor
  · intro ⟨q, hw2⟩
    obtain ⟨st, s1, s2⟩ := step_y N K q
    have hk : h_k h st = 8 + 1 := s2.1.1
    rw [cvT_k K.x.1, s1, clT_l, if_neg (show ¬ iI w < (0 : Int32) from fun z => absurd ((iI_lt (b := 0) hw (by omega)).mp z) (by omega)), if_neg (show ¬ (2 : Int32) < iI w from fun z => absurd ((iI_lt (a := 2) (by omega) hw).mp z) (by omega)), such_1, clT_l]
    rcases (show w = 0 ∨ w = 1 ∨ w = 2 by omega) with e | e | e <;> subst e
    · rw [if_pos (show iI 0 = (0 : Int32) from rfl), gI_k hk, s2.2.1.1, if_pos rfl]
      exact KE.ok K rfl
    · rw [if_neg (show ¬ iI 1 = (0 : Int32) by decide), if_pos (show iI 1 = (1 : Int32) from rfl), gI_k hk, s2.2.1.2.1, if_neg (by decide), if_pos rfl]
      exact KE.ok K rfl
    · rw [if_neg (show ¬ iI 2 = (0 : Int32) by decide), if_neg (show ¬ iI 2 = (1 : Int32) by decide), gI_k hk, s2.2.1.2.2, if_neg (by decide), if_neg (by decide)]
      exact KE.ok K rfl
  · intro hn
    by_cases q : isSt F.1.1 c i
    · have hw2 : ¬ (0 ≤ w ∧ w ≤ 2) := fun z => hn ⟨q, z⟩
      obtain ⟨st, s1, s2⟩ := step_y N K q
      rw [cvT_k K.x.1, s1, clT_l]
      by_cases w0 : w < 0
      · rw [if_pos (show iI w < (0 : Int32) from (iI_lt (b := 0) hw (by omega)).mpr w0), such_0, clT_r]
        exact KE.t1 K rfl
      · rw [if_neg (show ¬ iI w < (0 : Int32) from fun z => w0 ((iI_lt (b := 0) hw (by omega)).mp z)), if_pos (show (2 : Int32) < iI w from (iI_lt (a := 2) (by omega) hw).mpr (by omega)), such_0, clT_r]
        exact KE.t1 K rfl
    · rw [cvT_k K.x.1, step_n N K hc hi q, clT_r]
      exact KE.t1 K rfl
theorem fault_K (N : Nat) (K : KS ρ h Q F ks) : f_K_fault N h (Q 0) = some (iI F.2.2.2, h) := by
  unfold f_K_fault
  rw [gI_k K.x.1, K.2.2.2.2.2.2]
/-- what is counted -/
def zCount (F : FT) (w : Int) : Int32 := if w ≤ 3 then iI (F.1.1 w.toNat).1 else if w = 4 then iI F.1.2.1 else if w = 5 then iI F.1.2.2.2.1 else if w = 6 then iI F.2.2.1.1 else F.1.2.2.2.2.2.2 (w - 7).toNat
theorem count_K (N : Nat) (K : KS ρ h Q F ks) {w : Int} (hw : i32 w) : KE ρ h Q F ks (if 0 ≤ w ∧ w ≤ 9 then zCount F w else 0) (if 0 ≤ w ∧ w ≤ 9 then 0 else 1) (f_K_count N h (Q 0) (iI w)) := by
  unfold i32 at hw
  have h16 := K.so (i := 16) (k := 8) (l := 100) (n := 0) (by decide)
  have h37 := K.so (i := 37) (k := 50) (l := 100) (n := 3) (by decide)
  have hro : ro h (Q 37) 3 := h37
  have hX := K.2.2.2.1.1
  unfold f_K_count f_K_count_56 f_K_count_61
  have chain : ∀ w : Int, 0 ≤ w ∧ w ≤ 3 → KE ρ h Q F ks (iI (F.1.1 w.toNat).1) 0 (cvT h (some (Q 0)) 12 (fun a => f_K_chainOf N h a (iI w)) fun v1 h2 => gI h2 v1 2 1 fun v1 => some (.inl v1, h2)) := fun w hw => by
    have C := K.ch hw
    rw [cvT_k K.x.1, chain_y N K hw, clT_l, gI_k C.k, C.sz.1]
    exact KE.ok K rfl
  by_cases h9 : 0 ≤ w ∧ w ≤ 9
  · rw [if_pos h9, if_pos h9]
    unfold zCount
    rcases (show w = 0 ∨ w = 1 ∨ w = 2 ∨ w = 3 ∨ w = 4 ∨ w = 5 ∨ w = 6 ∨ w = 7 ∨ w = 8 ∨ w = 9 by omega) with e | e | e | e | e | e | e | e | e | e <;> subst e
    · rw [if_pos (show iI 0 = (0 : Int32) from rfl), if_pos (by omega)]; exact chain 0 (by omega)
    · rw [if_neg (show ¬ iI 1 = (0 : Int32) by decide), if_pos (show iI 1 = (1 : Int32) from rfl), if_pos (by omega)]; exact chain 1 (by omega)
    · rw [if_neg (show ¬ iI 2 = (0 : Int32) by decide), if_neg (show ¬ iI 2 = (1 : Int32) by decide), if_pos (show iI 2 = (2 : Int32) from rfl), if_pos (by omega)]; exact chain 2 (by omega)
    · rw [if_neg (show ¬ iI 3 = (0 : Int32) by decide), if_neg (show ¬ iI 3 = (1 : Int32) by decide), if_neg (show ¬ iI 3 = (2 : Int32) by decide), if_pos (show iI 3 = (3 : Int32) from rfl), if_pos (by omega)]; exact chain 3 (by omega)
    · rw [if_neg (show ¬ iI 4 = (0 : Int32) by decide), if_neg (show ¬ iI 4 = (1 : Int32) by decide), if_neg (show ¬ iI 4 = (2 : Int32) by decide), if_neg (show ¬ iI 4 = (3 : Int32) by decide), if_pos (show iI 4 = (4 : Int32) from rfl), gR_k K.x.1, K.ref (i := 0) (k := 16) (j := 16) (by decide), gI_k (show h_k h (Q 16) = 7 + 1 from h16.1), hX.2.1.1, if_neg (by omega), if_pos rfl]
      exact KE.ok K rfl
    · rw [if_neg (show ¬ iI 5 = (0 : Int32) by decide), if_neg (show ¬ iI 5 = (1 : Int32) by decide), if_neg (show ¬ iI 5 = (2 : Int32) by decide), if_neg (show ¬ iI 5 = (3 : Int32) by decide), if_neg (show ¬ iI 5 = (4 : Int32) by decide), if_pos (show iI 5 = (5 : Int32) from rfl), gR_k K.x.1, K.ref (i := 0) (k := 16) (j := 16) (by decide), gI_k (show h_k h (Q 16) = 7 + 1 from h16.1), hX.2.1.2, if_neg (by omega), if_neg (by omega), if_pos rfl]
      exact KE.ok K rfl
    · rw [if_neg (show ¬ iI 6 = (0 : Int32) by decide), if_neg (show ¬ iI 6 = (1 : Int32) by decide), if_neg (show ¬ iI 6 = (2 : Int32) by decide), if_neg (show ¬ iI 6 = (3 : Int32) by decide), if_neg (show ¬ iI 6 = (4 : Int32) by decide), if_neg (show ¬ iI 6 = (5 : Int32) by decide), if_pos (show iI 6 = (6 : Int32) from rfl), gI_k K.x.1, K.2.2.2.2.2.1.1, if_neg (by omega), if_neg (by omega), if_neg (by omega), if_pos rfl]
      exact KE.ok K rfl
    · rw [if_neg (show ¬ iI 7 = (0 : Int32) by decide), if_neg (show ¬ iI 7 = (1 : Int32) by decide), if_neg (show ¬ iI 7 = (2 : Int32) by decide), if_neg (show ¬ iI 7 = (3 : Int32) by decide), if_neg (show ¬ iI 7 = (4 : Int32) by decide), if_neg (show ¬ iI 7 = (5 : Int32) by decide), if_neg (show ¬ iI 7 = (6 : Int32) by decide), if_pos (show iI 7 = (7 : Int32) from rfl), gR_k K.x.1, K.ref (i := 0) (k := 16) (j := 16) (by decide), gR_k (show h_k h (Q 16) = 7 + 1 from h16.1), K.sref (i := 16) (k := 7) (j := 37) (by decide), show (0 : Int32) = iI ((0 : Nat) : Int) from rfl, aI_iI hro (by omega) (by omega) (by omega), if_neg (by omega), if_neg (by omega), if_neg (by omega), if_neg (by omega), ← hX.2.2.2.2.2.2 _ (by omega)]
      exact KE.ok K rfl
    · rw [if_neg (show ¬ iI 8 = (0 : Int32) by decide), if_neg (show ¬ iI 8 = (1 : Int32) by decide), if_neg (show ¬ iI 8 = (2 : Int32) by decide), if_neg (show ¬ iI 8 = (3 : Int32) by decide), if_neg (show ¬ iI 8 = (4 : Int32) by decide), if_neg (show ¬ iI 8 = (5 : Int32) by decide), if_neg (show ¬ iI 8 = (6 : Int32) by decide), if_neg (show ¬ iI 8 = (7 : Int32) by decide), if_pos (show iI 8 = (8 : Int32) from rfl), gR_k K.x.1, K.ref (i := 0) (k := 16) (j := 16) (by decide), gR_k (show h_k h (Q 16) = 7 + 1 from h16.1), K.sref (i := 16) (k := 7) (j := 37) (by decide), show (1 : Int32) = iI ((1 : Nat) : Int) from rfl, aI_iI hro (by omega) (by omega) (by omega), if_neg (by omega), if_neg (by omega), if_neg (by omega), if_neg (by omega), ← hX.2.2.2.2.2.2 _ (by omega)]
      exact KE.ok K rfl
    · rw [if_neg (show ¬ iI 9 = (0 : Int32) by decide), if_neg (show ¬ iI 9 = (1 : Int32) by decide), if_neg (show ¬ iI 9 = (2 : Int32) by decide), if_neg (show ¬ iI 9 = (3 : Int32) by decide), if_neg (show ¬ iI 9 = (4 : Int32) by decide), if_neg (show ¬ iI 9 = (5 : Int32) by decide), if_neg (show ¬ iI 9 = (6 : Int32) by decide), if_neg (show ¬ iI 9 = (7 : Int32) by decide), if_neg (show ¬ iI 9 = (8 : Int32) by decide), if_pos (show iI 9 = (9 : Int32) from rfl), gR_k K.x.1, K.ref (i := 0) (k := 16) (j := 16) (by decide), gR_k (show h_k h (Q 16) = 7 + 1 from h16.1), K.sref (i := 16) (k := 7) (j := 37) (by decide), show (2 : Int32) = iI ((2 : Nat) : Int) from rfl, aI_iI hro (by omega) (by omega) (by omega), if_neg (by omega), if_neg (by omega), if_neg (by omega), if_neg (by omega), ← hX.2.2.2.2.2.2 _ (by omega)]
      exact KE.ok K rfl
  · have ne : ∀ n : Int, 0 ≤ n ∧ n ≤ 9 → ¬ iI w = iI n := fun n hn q => absurd ((iI_eq hw (by omega)).mp q) (by omega)
    rw [if_neg h9, if_neg h9, if_neg (show ¬ iI w = (0 : Int32) from ne 0 (by omega)), if_neg (show ¬ iI w = (1 : Int32) from ne 1 (by omega)), if_neg (show ¬ iI w = (2 : Int32) from ne 2 (by omega)), if_neg (show ¬ iI w = (3 : Int32) from ne 3 (by omega)), if_neg (show ¬ iI w = (4 : Int32) from ne 4 (by omega)), if_neg (show ¬ iI w = (5 : Int32) from ne 5 (by omega)), if_neg (show ¬ iI w = (6 : Int32) from ne 6 (by omega)), if_neg (show ¬ iI w = (7 : Int32) from ne 7 (by omega)), if_neg (show ¬ iI w = (8 : Int32) from ne 8 (by omega)), if_neg (show ¬ iI w = (9 : Int32) from ne 9 (by omega))]
    exact KE.t1 K rfl
end
