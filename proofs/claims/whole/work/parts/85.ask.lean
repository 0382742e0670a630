theorem stand_rng {Z : Nat → Int} (hn : zNn Z) {s : Int} (h1 : Z 0 ≤ s) (h2 : s ≤ zS Z 10001) : -5000 ≤ zStand Z s ∧ zStand Z s ≤ 5000 := by
  obtain ⟨f1, f2, f3⟩ := turn_le hn s h1 h2
  unfold zStand zNear
  split
  · omega
  · split <;> omega
/-- where the first of two stands, nearest to 0 -/
def zWhr (Z Y : Nat → Int) (x s : Int) : Int := zNear (max (zTurn Z s) (x - zTurn Y (s + 1))) (min (zTurn Z (s + 1)) (x - zTurn Y s)) 0
/-- the costs of a set -/
def shL (set : Int) : Nat → Nat → List Nat
  | 0, _ => []
  | m + 1, c => if set / 2 ^ c % 2 = 1 then c :: shL set m (c + 1) else shL set m (c + 1)
theorem bit_is {set : Int} (hs : 1 ≤ set ∧ set ≤ 15) {c : Nat} (hc : c < 4) : ((iI set >>> (iI c &&& 31)) &&& (1 : Int32)) = iI (set / 2 ^ c % 2) := by
  obtain ⟨n, hn⟩ : ∃ n : Nat, set = n := ⟨set.toNat, by omega⟩
  subst hn
  have h1 : n < 16 := by omega
  clear hs
  rcases (show c = 0 ∨ c = 1 ∨ c = 2 ∨ c = 3 by omega) with e | e | e | e <;> subst e <;> clear hc <;> (revert h1; revert n; decide)
theorem bit_01 (set : Int) (c : Nat) : set / 2 ^ c % 2 = 0 ∨ set / 2 ^ c % 2 = 1 := by omega
section
variable {ρ : Nat → Nat} {h : hS} {Q : Nat → Nat} {F : FT} {ks : List Nat}
theorem sv_loop (N : Nat) (hN : 20000 ≤ N) (K : KS ρ h Q F ks) {cs : List Nat} (T : TM h Q cs) {s : Int} (hs : tLo F.1.1 cs (-5000) ≤ s ∧ s ≤ tHi F.1.1 cs 5000) : ∀ (m i : Nat) (a : Int) (fuel : Nat), i + m = cs.length → f_K_sharedValue_17 N (m + (fuel + 1)) h (Q 0) (iI cs.length) (lI s) (lI a) (iI i) = some (lI (a + gSum F.1.1 (cs.drop i) s), h) := by
  have hl := tLo_le F.1.1 cs (-5000)
  have hh := tHi_le F.1.1 cs 5000
  have h4 := T.1
  intro m
  induction m with
  | zero =>
    intro i a fuel hi
    rw [Nat.zero_add]
    unfold f_K_sharedValue_17 f_K_sharedValue_76
    rw [if_pos ((iI_le (by omega) (by omega)).mpr (by omega)), List.drop_eq_nil_of_le (by omega), gSum, Int.add_zero]
  | succ m ih =>
    intro i a fuel hi
    have hic : i < cs.length := by omega
    have z := K.tmz T hic
    have q1 := hl.2 _ (List.getElem_mem hic)
    have q2 := hh.2 _ (List.getElem_mem hic)
    have q3 : zC F.1.1 cs[i] 0 ≤ s := Int.le_trans q1 hs.1
    have q4 : s ≤ zS (zC F.1.1 cs[i]) 10001 := Int.le_trans hs.2 q2
    have sr := stand_rng z.2.1.1 q3 q4
    have hk := K.ko (i := 14) (k := 63) (l := 8) (n := 4) (by decide)
    have near := cstand_is N hN z (s := s) (by omega) q3 q4
    clear q1 q2 q4
    rw [show m + 1 + (fuel + 1) = (m + (fuel + 1)) + 1 by omega]
    unfold f_K_sharedValue_17 f_K_sharedValue_76
    rw [if_neg (show ¬ iI cs.length ≤ iI i from fun q => absurd ((iI_le (by omega) (by omega)).mp q) (by omega)), gR_k K.x.1, K.ref (i := 0) (k := 14) (j := 14) (by decide), lnR hk.1 hk.2, if_neg (show ¬ iI (4 : Nat) ≤ iI i from fun q => absurd ((iI_le (by omega) (by omega)).mp q) (by omega)), gR_k K.x.1, K.ref (i := 0) (k := 14) (j := 14) (by decide), K.tm T hic, cv_k z.1.k, lI_i, near, cl_s, gR_k K.x.1, K.ref (i := 0) (k := 14) (j := 14) (by decide), K.tm T hic, cv_k z.1.k, cval_is N (by omega) z.1 (by omega), cl_s, kv_val z.2.1, iI_l (by omega) (by omega), lI_mul, lI_sub, lI_add, bn_i, show (1 : Int32) = iI 1 from rfl, iI_add, bn_i, show (i : Int) + 1 = ((i + 1 : Nat) : Int) by omega, ih (i + 1) _ fuel (by omega), List.drop_eq_getElem_cons hic, gSum, Int.add_assoc]
theorem sv_is (N : Nat) (hN : 20000 ≤ N) (K : KS ρ h Q F ks) {cs : List Nat} (T : TM h Q cs) {x : Int} (hx : -100000 ≤ x ∧ x ≤ 100000) {s : Int} (hs : zShS F.1.1 cs x s) : f_K_sharedValue N h (Q 0) (iI cs.length) (iI x) = some (lI (s * x + gSum F.1.1 cs s), h) := by
  have h4 := T.1
  have hl := (tLo_le F.1.1 cs (-5000)).1
  have hh := (tHi_le F.1.1 cs 5000).1
  obtain ⟨fuel, hfu⟩ : ∃ fuel, N = cs.length + (fuel + 1) := ⟨N - cs.length - 1, by omega⟩
  have := sv_loop N hN K T hs.1 cs.length 0 (s * x) fuel (by omega)
  rw [← hfu, List.drop_zero] at this
  have hs1 := hs.1
  unfold f_K_sharedValue
  rw [cv_k K.x.1, common_is N hN K T hx hs, cl_s, iI_l (by omega) (by omega), bn_i, iI_l (by omega) (by omega), lI_mul, bn_i]
  exact this
/-- one more in the team -/
theorem KS.join (K : KS ρ h Q F ks) {cs : List Nat} (T : TM h Q cs) (hl : cs.length < 4) {c : Nat} (hc : c < 4) : KS ρ (s_r h (Q 14) cs.length (some (Q (20 + c)))) Q F ks ∧ tr ρ h RA ρ (s_r h (Q 14) cs.length (some (Q (20 + c)))) ∧ hm (s_r h (Q 14) cs.length (some (Q (20 + c)))) + brs (s_r h (Q 14) cs.length (some (Q (20 + c)))) (Q 4) ≤ hm h + brs h (Q 4) ∧ TM (s_r h (Q 14) cs.length (some (Q (20 + c)))) Q (cs ++ [c]) := by
  have hlab := (K.1.1 (14, 63, 8, 4) (by decide)).2.1
  have t : tr ρ h (rg 8) ρ (s_r h (Q 14) cs.length (some (Q (20 + c)))) := tr_sr hlab
  obtain ⟨k1, k2⟩ := K.ask0 t (fun q hq => by have : q = 8 := hq; unfold RA RB; omega)
  refine ⟨k1, t.mono (fun q hq => by have : q = 8 := hq; unfold RA; omega), by rw [k2]; exact Nat.le_refl _, by rw [List.length_append]; simp; omega, fun d hd => ?_, fun i hi => ?_⟩
  · rcases List.mem_append.mp hd with q | q
    · exact T.2.1 d q
    · rw [List.mem_singleton.mp q]; exact hc
  · rw [h_r_sr, if_pos rfl]
    rw [List.length_append] at hi
    by_cases e : i < cs.length
    · rw [List.getElem_append_left e]
      unfold va_up
      rw [if_neg (by omega)]
      exact T.2.2 i e
    · have e2 : i = cs.length := by simp at hi; omega
      subst e2
      rw [List.getElem_append_right (by omega)]
      simp [va_up]
end
