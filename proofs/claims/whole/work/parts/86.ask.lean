theorem turn_top {Z : Nat → Int} (hn : zNn Z) {s : Int} (q : zS Z 10001 < s) : zTurn Z s = 100000000 := by
  have a := zS_top hn
  have a0 : Z 0 ≤ zS Z 10001 := a 0
  generalize zS Z 10001 = S at q a a0
  have sp : ∀ j, s ≤ zS Z j → False := fun j h => by have := a j; omega
  rcases zTurn_spec Z s with ⟨u1, u2⟩ | ⟨u1, u2⟩ | ⟨j, u1, u2, u3, u4⟩
  · omega
  · exact u1
  · exact (sp _ u4).elim
section
variable {ρ : Nat → Nat} {h : hS} {Q : Nat → Nat} {F : FT} {ks : List Nat} {α : Type}
theorem TM.nil : TM h Q [] := ⟨by simp, fun c hc => by simp at hc, fun i hi => by simp at hi⟩
theorem KS.czk (K : KS ρ h Q F ks) {c : Nat} (hc : c < 4) : ∀ b, some (Q (20 + c)) = some b → h_k h b = 3 + 1 := fun b hb => by
  injection hb with hb; subst hb; exact (K.2.2.1 c hc).1.k
theorem two_team (N : Nat) (K : KS ρ h Q F ks) {c d : Int} (hc : i32 c) (hd : i32 d) (a : α) (k : Int32) (f : hS → Option ((α ⊕ Nat) × hS))
    (h1 : ¬ ((0 ≤ c ∧ c ≤ 3) ∧ (0 ≤ d ∧ d ≤ 3)) → k = 1)
    (h2 : ∀ g, (0 ≤ c ∧ c ≤ 3) → (0 ≤ d ∧ d ≤ 3) → KS ρ g Q F ks → TM g Q [c.toNat, d.toNat] → KE ρ g Q F ks a k (f g)) :
    KE ρ h Q F ks a k (cvT h (some (Q 0)) 12 (fun a => f_K_gatherTwo N h a (iI c) (iI d)) fun _ h6 => f h6) := by
  rw [cvT_k K.x.1]
  unfold f_K_gatherTwo f_K_gatherTwo_4 f_K_gatherTwo_8 f_K_gatherTwo_18 f_K_gatherTwo_29
  by_cases c1 : 0 ≤ c ∧ c ≤ 3
  · rw [ncost_y N h c1, clT_l]
    by_cases d1 : 0 ≤ d ∧ d ≤ 3
    · have hk := K.ko (i := 14) (k := 63) (l := 8) (n := 4) (by decide)
      obtain ⟨K1, T1, m1, M1⟩ := K.join (cs := []) TM.nil (by simp) (n4 c1).1
      obtain ⟨K2, T2, m2, M2⟩ := K1.join M1 (by simp) (n4 d1).1
      have hk1 := K1.ko (i := 14) (k := 63) (l := 8) (n := 4) (by decide)
      rw [ncost_y N h d1, clT_l, gR_k K.x.1, K.ref (i := 0) (k := 14) (j := 14) (by decide), cvT_k K.x.1, curve_y N K c1, clT_l, show (0 : Int32) = iI ((([] : List Nat).length : Nat) : Int) from rfl, uR_i hk.1 hk.2 (by simp) (by omega) (K.czk (n4 c1).1), gR_k K1.x.1, K1.ref (i := 0) (k := 14) (j := 14) (by decide), cvT_k K1.x.1, curve_y N K1 d1, clT_l, show (1 : Int32) = iI ((([] ++ [c.toNat] : List Nat).length : Nat) : Int) from rfl, uR_i hk1.1 hk1.2 (by simp) (by omega) (K1.czk (n4 d1).1), clT_l]
      exact KE.go T1 m1 (KE.go T2 m2 (h2 _ c1 d1 K2 M2))
    · rw [ncost_n N h hd d1, clT_r, clT_r, h1 (fun q => d1 q.2)]
      exact KE.t1 K rfl
  · rw [ncost_n N h hc c1, clT_r, clT_r, h1 (fun q => c1 q.1)]
    exact KE.t1 K rfl
theorem split_K (N : Nat) (hN : 20000 ≤ N) (K : KS ρ h Q F ks) {c d x : Int} (hc : i32 c) (hd : i32 d) (hx : i32 x) {s : Int} (hs : ((0 ≤ c ∧ c ≤ 3) ∧ (0 ≤ d ∧ d ≤ 3)) ∧ (-100000 ≤ x ∧ x ≤ 100000) → zShS F.1.1 [c.toNat, d.toNat] x s) : KE ρ h Q F ks (if ((0 ≤ c ∧ c ≤ 3) ∧ (0 ≤ d ∧ d ≤ 3)) ∧ (-100000 ≤ x ∧ x ≤ 100000) then lI (s * x + gSum F.1.1 [c.toNat, d.toNat] s) else 0) (if (0 ≤ c ∧ c ≤ 3) ∧ (0 ≤ d ∧ d ≤ 3) then (if -100000 ≤ x ∧ x ≤ 100000 then 0 else 2) else 1) (f_K_split N h (Q 0) (iI c) (iI d) (iI x)) := by
  unfold f_K_split
  refine two_team N K hc hd _ _ (fun h2 => f_K_split_6 N h2 (Q 0) (iI x)) (fun q => if_neg q) (fun g c1 d1 K1 T => ?_)
  rw [if_pos (show (0 ≤ c ∧ c ≤ 3) ∧ (0 ≤ d ∧ d ≤ 3) from ⟨c1, d1⟩)]
  unfold f_K_split_6 f_K_split_10
  by_cases x1 : -100000 ≤ x ∧ x ≤ 100000
  · have := sv_is N hN K1 T x1 (hs ⟨⟨c1, d1⟩, x1⟩)
    rw [nx_y N g x1, clT_l, cv_k K1.x.1, show (2 : Int32) = iI (([c.toNat, d.toNat].length : Nat) : Int) from rfl, this, cl_s, if_pos ⟨⟨c1, d1⟩, x1⟩, if_pos x1]
    exact KE.ok K1 rfl
  · rw [nx_n N g hx x1, clT_r, if_neg (fun q => x1 q.2), if_neg x1]
    exact KE.t2 K1 rfl
theorem whr_eq {a0 a1 b0 b1 x : Int} (hx : -100000 ≤ x ∧ x ≤ 100000) (f0 : a0 = -100000000 ∨ (-5000 ≤ a0 ∧ a0 ≤ 5000)) (f1 : a1 = -100000000 ∨ (-5000 ≤ a1 ∧ a1 ≤ 5000)) (g0 : b0 = 100000000 ∨ (-5000 ≤ b0 ∧ b0 ≤ 5000)) (g1 : b1 = 100000000 ∨ (-5000 ≤ b1 ∧ b1 ≤ 5000)) (h0 : a0 ≤ b0) (h1 : a1 ≤ b1) (hl : a0 + a1 ≤ x) (hr : x ≤ b0 + b1) : min (max 0 (max (ft a0) (x - ft b1))) (min (ft b0) (x - ft a1)) = zNear (max a0 (x - b1)) (min b0 (x - a1)) 0 := by
  have e0 : (a0 = -100000000 ∧ ft a0 = -1000000000) ∨ ((-5000 ≤ a0 ∧ a0 ≤ 5000) ∧ ft a0 = a0) := by
    rcases f0 with q | q
    · exact Or.inl ⟨q, by rw [q]; rfl⟩
    · exact Or.inr ⟨q, ft_in q⟩
  have e1 : (a1 = -100000000 ∧ ft a1 = -1000000000) ∨ ((-5000 ≤ a1 ∧ a1 ≤ 5000) ∧ ft a1 = a1) := by
    rcases f1 with q | q
    · exact Or.inl ⟨q, by rw [q]; rfl⟩
    · exact Or.inr ⟨q, ft_in q⟩
  have e2 : (b0 = 100000000 ∧ ft b0 = 1000000000) ∨ ((-5000 ≤ b0 ∧ b0 ≤ 5000) ∧ ft b0 = b0) := by
    rcases g0 with q | q
    · exact Or.inl ⟨q, by rw [q]; rfl⟩
    · exact Or.inr ⟨q, ft_in q⟩
  have e3 : (b1 = 100000000 ∧ ft b1 = 1000000000) ∨ ((-5000 ≤ b1 ∧ b1 ≤ 5000) ∧ ft b1 = b1) := by
    rcases g1 with q | q
    · exact Or.inl ⟨q, by rw [q]; rfl⟩
    · exact Or.inr ⟨q, ft_in q⟩
  generalize ft a0 = A0 at *
  generalize ft a1 = A1 at *
  generalize ft b0 = B0 at *
  generalize ft b1 = B1 at *
  clear f0 f1 g0 g1
  unfold zNear
  rcases e0 with ⟨p0, q0⟩ | ⟨p0, q0⟩ <;> rcases e1 with ⟨p1, q1⟩ | ⟨p1, q1⟩ <;> rcases e2 with ⟨p2, q2⟩ | ⟨p2, q2⟩ <;> rcases e3 with ⟨p3, q3⟩ | ⟨p3, q3⟩ <;> subst q0 q1 q2 q3
  all_goals
    split
    · omega
    · split <;> omega
/-- the lowest slope with its ends on both sides of x -/
theorem whr_ends {C : Cs} {c d : Nat} (zc : zInv (zC C c)) (zd : zInv (zC C d)) {x s : Int} (hx : -100000 ≤ x ∧ x ≤ 100000) (hs : zShS C [c, d] x s) : ((zC C c 0 ≤ s ∧ s ≤ zS (zC C c) 10001) ∧ (zC C d 0 ≤ s ∧ s ≤ zS (zC C d) 10001)) ∧ zTurn (zC C c) s + zTurn (zC C d) s ≤ x ∧ x ≤ zTurn (zC C c) (s + 1) + zTurn (zC C d) (s + 1) := by
  obtain ⟨⟨a1, a2⟩, a3, a4⟩ := hs
  have hlo : tLo C [c, d] (-5000) = max (max (-5000) (zC C c 0)) (zC C d 0) := rfl
  have hhi : tHi C [c, d] 5000 = min (min 5000 (zS (zC C c) 10001)) (zS (zC C d) 10001) := rfl
  have hsum : ∀ t, tSum C [c, d] t = zTurn (zC C c) t + (zTurn (zC C d) t + 0) := fun t => rfl
  rw [hlo] at a1 a3
  rw [hhi] at a2 a4
  have rc := zc.rng
  have rd := zd.rng
  have b1 := turn_le zc.1.1 s
  have b2 := turn_le zd.1.1 s
  have t1 : s ≤ zC C c 0 → zTurn (zC C c) s = -100000000 := fun q => by unfold zTurn; rw [if_pos q]
  have t2 : s ≤ zC C d 0 → zTurn (zC C d) s = -100000000 := fun q => by unfold zTurn; rw [if_pos q]
  have t3 := fun q => turn_top zc.1.1 (s := s + 1) q
  have t4 := fun q => turn_top zd.1.1 (s := s + 1) q
  have a5 := a3 (s - 1)
  rw [show s - 1 + 1 = s by omega, hsum] at a5
  rw [hsum] at a4
  generalize zS (zC C c) 10001 = Sc at *
  generalize zS (zC C d) 10001 = Sd at *
  clear a3 hsum hlo hhi
  have hb1 := b1 (by omega) (by omega)
  have hb2 := b2 (by omega) (by omega)
  refine ⟨by omega, ?_, ?_⟩
  · by_cases q : max (max (-5000) (zC C c 0)) (zC C d 0) ≤ s - 1
    · have := a5 q (by omega); omega
    · by_cases q1 : s ≤ zC C c 0
      · have := t1 q1; omega
      · by_cases q2 : s ≤ zC C d 0
        · have := t2 q2; omega
        · omega
  · rcases a4 with q | q
    · by_cases q1 : Sc < s + 1
      · have := t3 q1; omega
      · have := t4 (by omega); omega
    · omega
theorem where_K (N : Nat) (hN : 20000 ≤ N) (K : KS ρ h Q F ks) {c d x : Int} (hc : i32 c) (hd : i32 d) (hx : i32 x) {s : Int} (hs : ((0 ≤ c ∧ c ≤ 3) ∧ (0 ≤ d ∧ d ≤ 3)) ∧ (-100000 ≤ x ∧ x ≤ 100000) → zShS F.1.1 [c.toNat, d.toNat] x s) : KE ρ h Q F ks (if ((0 ≤ c ∧ c ≤ 3) ∧ (0 ≤ d ∧ d ≤ 3)) ∧ (-100000 ≤ x ∧ x ≤ 100000) then iI (zWhr (zC F.1.1 c.toNat) (zC F.1.1 d.toNat) x s) else 0) (if (0 ≤ c ∧ c ≤ 3) ∧ (0 ≤ d ∧ d ≤ 3) then (if -100000 ≤ x ∧ x ≤ 100000 then 0 else 2) else 1) (f_K_where N h (Q 0) (iI c) (iI d) (iI x)) := by
  unfold f_K_where
  refine two_team N K hc hd _ _ (fun h2 => f_K_where_6 N h2 (Q 0) (iI x)) (fun q => if_neg q) (fun g c1 d1 K1 T => ?_)
  rw [if_pos (show (0 ≤ c ∧ c ≤ 3) ∧ (0 ≤ d ∧ d ≤ 3) from ⟨c1, d1⟩)]
  unfold f_K_where_6 f_K_where_10
  by_cases x1 : -100000 ≤ x ∧ x ≤ 100000
  · have hs1 := hs ⟨⟨c1, d1⟩, x1⟩
    have cm := common_is N hN K1 T x1 hs1
    have z1 := K1.cz c1
    have z2 := K1.cz d1
    obtain ⟨⟨⟨e1, e2⟩, e3, e4⟩, e5, e6⟩ := whr_ends z1.2 z2.2 x1 hs1
    obtain ⟨p1, p2, p3⟩ := turn_le z1.2.1.1 s e1 e2
    obtain ⟨r1, r2, r3⟩ := turn_le z2.2.1.1 s e3 e4
    have hb : -5000 ≤ s ∧ s ≤ 5000 := by have := z1.2.rng; exact ⟨Int.le_trans this.1 e1, Int.le_trans e2 this.2.1⟩
    clear e2 e4
    have w := whr_eq x1 p1 r1 p2 r2 p3 r3 e5 e6
    have l1 := clow_is N (by omega) z1.1 (s := s) (by omega)
    have l2 := clow_is N (by omega) z2.1 (s := s) (by omega)
    have k1 := chigh_is N (by omega) z1.1 (s := s) (by omega)
    have k2 := chigh_is N (by omega) z2.1 (s := s) (by omega)
    rw [cUnit_turn z1.2.1.1 s] at l1
    rw [cUnit_turn z2.2.1.1 s] at l2
    rw [show -zC F.1.1 c.toNat 0 + s + 1 = -zC F.1.1 c.toNat 0 + (s + 1) by omega, cUnit_turn z1.2.1.1 (s + 1)] at k1
    rw [show -zC F.1.1 d.toNat 0 + s + 1 = -zC F.1.1 d.toNat 0 + (s + 1) by omega, cUnit_turn z2.2.1.1 (s + 1)] at k2
    have ftb : ∀ t, (-5000 ≤ t ∧ t ≤ 5000) ∨ t = 100000000 ∨ t = -100000000 → -1000000000 ≤ ft t ∧ ft t ≤ 1000000000 := fun t ht => by
      unfold ft
      split
      · omega
      · split <;> omega
    have f1 := ftb (zTurn (zC F.1.1 c.toNat) s) (by omega)
    have f2 := ftb (zTurn (zC F.1.1 d.toNat) s) (by omega)
    have f3 := ftb (zTurn (zC F.1.1 c.toNat) (s + 1)) (by omega)
    have f4 := ftb (zTurn (zC F.1.1 d.toNat) (s + 1)) (by omega)
    have r14 := K1.ref (i := 0) (k := 14) (j := 14) (by decide)
    have tm0 := fun (f : Option Nat → Option ((Int32 ⊕ Nat) × hS)) => K1.tm T (i := 0) (by simp) f
    have tm1 := fun (f : Option Nat → Option ((Int32 ⊕ Nat) × hS)) => K1.tm T (i := 1) (by simp) f
    have tm0 : ∀ f : Option Nat → Option ((Int32 ⊕ Nat) × hS), aR g 63 (some (Q 14)) (0 : Int32) f = f (some (Q (20 + c.toNat))) := tm0
    have tm1 : ∀ f : Option Nat → Option ((Int32 ⊕ Nat) × hS), aR g 63 (some (Q 14)) (1 : Int32) f = f (some (Q (20 + d.toNat))) := tm1
    rw [nx_y N g x1, clT_l, cv_k K1.x.1, show (2 : Int32) = iI (([c.toNat, d.toNat].length : Nat) : Int) from rfl, cm, cl_s, gR_k K1.x.1, r14, tm0, cv_k z1.1.k, l1, cl_s, gR_k K1.x.1, r14, tm1, cv_k z2.1.k, k2, cl_s, iI_sub, jmx_is (by omega) (by omega), bn_i, gR_k K1.x.1, r14, tm0, cv_k z1.1.k, k1, cl_s, gR_k K1.x.1, r14, tm1, cv_k z2.1.k, l2, cl_s, iI_sub, jmn_is (by omega) (by omega), bn_i, show (0 : Int32) = iI 0 from rfl, clamp_is N g (by omega) (by omega) (by omega), cl_s, w, if_pos ⟨⟨c1, d1⟩, x1⟩, if_pos x1]
    exact KE.ok K1 rfl
  · rw [nx_n N g hx x1, clT_r, if_neg (fun q => x1 q.2), if_neg x1]
    exact KE.t2 K1 rfl
theorem shared_loop (N : Nat) (hN : 20000 ≤ N) {set x : Int} (hset : 1 ≤ set ∧ set ≤ 15) (x1 : -100000 ≤ x ∧ x ≤ 100000) {s : Int} {cs : List Nat} (hs : zShS F.1.1 cs x s) : ∀ (m : Nat) (h : hS) (c : Nat) (pre : List Nat) (fuel : Nat), c + m = 4 → KS ρ h Q F ks → TM h Q pre → pre.length ≤ c → cs = pre ++ shL set m c → KE ρ h Q F ks (lI (s * x + gSum F.1.1 cs s)) 0 (f_K_shared_28 N (m + (fuel + 1)) h (Q 0) (iI set) (iI x) (iI pre.length) (iI c)) := by
  intro m
  induction m with
  | zero =>
    intro h c pre fuel hc K T hl e
    rw [shL, List.append_nil] at e
    subst e
    have sv := sv_is N hN K T x1 hs
    rw [Nat.zero_add]
    unfold f_K_shared_28
    rw [if_pos (show (4 : Int32) ≤ iI c from (iI_le (a := 4) (by omega) (by omega)).mpr (by omega)), cv_k K.x.1, sv, cl_s]
    exact KE.ok K rfl
  | succ m ih =>
    intro h c pre fuel hc K T hl e
    rw [shL] at e
    rw [show m + 1 + (fuel + 1) = (m + (fuel + 1)) + 1 by omega]
    have hR := ih
    unfold f_K_shared_28 f_K_shared_55 f_K_shared_59
    rw [if_neg (show ¬ (4 : Int32) ≤ iI c from fun q => absurd ((iI_le (a := 4) (by omega) (by omega)).mp q) (by omega)), bit_is hset (by omega)]
    rcases bit_01 set c with b | b
    · rw [b] at e
      rw [b, if_neg (show ¬ iI 0 = (1 : Int32) by decide), bn_i, show (1 : Int32) = iI 1 from rfl, iI_add, show (c : Int) + 1 = ((c + 1 : Nat) : Int) by omega]
      rw [if_neg (by decide)] at e
      exact ih h (c + 1) pre fuel (by omega) K T (by omega) e
    · rw [b] at e
      rw [if_pos rfl] at e
      have hk := K.ko (i := 14) (k := 63) (l := 8) (n := 4) (by decide)
      have cy := curve_y N K (c := (c : Int)) (by omega)
      rw [Int.toNat_natCast] at cy
      obtain ⟨K1, T1, m1, M1⟩ := K.join T (by omega) (show c < 4 by omega)
      rw [b, if_pos (show iI 1 = (1 : Int32) from rfl), gR_k K.x.1, K.ref (i := 0) (k := 14) (j := 14) (by decide), cvT_k K.x.1, cy, clT_l, uR_i hk.1 hk.2 (by omega) (by omega) (K.czk (show c < 4 by omega)), show (1 : Int32) = iI 1 from rfl, iI_add, iI_add, bn_i, bn_i, show (c : Int) + 1 = ((c + 1 : Nat) : Int) by omega, show (pre.length : Int) + 1 = ((pre ++ [c]).length : Int) by simp]
      refine KE.go T1 m1 (ih _ (c + 1) (pre ++ [c]) fuel (by omega) K1 M1 (by simp; omega) (by rw [e, List.append_assoc]; rfl))
theorem shared_K (N : Nat) (hN : 20000 ≤ N) (K : KS ρ h Q F ks) {set x : Int} (hc : i32 set) (hx : i32 x) {s : Int} (hs : (1 ≤ set ∧ set ≤ 15) ∧ (-100000 ≤ x ∧ x ≤ 100000) → zShS F.1.1 (shL set 4 0) x s) : KE ρ h Q F ks (if (1 ≤ set ∧ set ≤ 15) ∧ (-100000 ≤ x ∧ x ≤ 100000) then lI (s * x + gSum F.1.1 (shL set 4 0) s) else 0) (if (1 ≤ set ∧ set ≤ 15) ∧ (-100000 ≤ x ∧ x ≤ 100000) then 0 else 2) (f_K_shared N h (Q 0) (iI set) (iI x)) := by
  unfold i32 at hc
  unfold f_K_shared f_K_shared_15 f_K_shared_16 f_K_shared_19 f_K_shared_23
  by_cases h1 : 1 ≤ set ∧ set ≤ 15
  · rw [if_neg (show ¬ iI set < (1 : Int32) from fun q => absurd ((iI_lt (b := 1) hc (by omega)).mp q) (by omega)), if_neg (show ¬ (15 : Int32) < iI set from fun q => absurd ((iI_lt (a := 15) (by omega) hc).mp q) (by omega)), fit_1, clT_l]
    by_cases x1 : -100000 ≤ x ∧ x ≤ 100000
    · obtain ⟨fuel, hfu⟩ : ∃ fuel, N = 4 + (fuel + 1) := ⟨N - 5, by omega⟩
      have := shared_loop N hN h1 x1 (hs ⟨h1, x1⟩) 4 h 0 [] fuel (by omega) K TM.nil (by simp) rfl
      rw [← hfu] at this
      rw [nx_y N h x1, clT_l, if_pos (show (1 ≤ set ∧ set ≤ 15) ∧ (-100000 ≤ x ∧ x ≤ 100000) from ⟨h1, x1⟩), if_pos (show (1 ≤ set ∧ set ≤ 15) ∧ (-100000 ≤ x ∧ x ≤ 100000) from ⟨h1, x1⟩)]
      exact this
    · rw [nx_n N h hx x1, clT_r, if_neg (fun q => x1 q.2), if_neg (fun q => x1 q.2)]
      exact KE.t2 K rfl
  · rw [if_neg (fun q => h1 q.1), if_neg (fun q => h1 q.1)]
    by_cases h0 : set < 1
    · rw [if_pos (show iI set < (1 : Int32) from (iI_lt (b := 1) hc (by omega)).mpr h0), fit_0, clT_r]
      exact KE.t2 K rfl
    · rw [if_neg (show ¬ iI set < (1 : Int32) from fun q => h0 ((iI_lt (b := 1) hc (by omega)).mp q)), if_pos (show (15 : Int32) < iI set from (iI_lt (a := 15) (by omega) hc).mpr (by omega)), fit_0, clT_r]
      exact KE.t2 K rfl
end
