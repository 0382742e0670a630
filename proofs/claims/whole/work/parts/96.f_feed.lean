/-! FEED -/
/-- a byte of a number: k bits are behind it -/
def fb (w : Int32) (k : Nat) : Int := w.toInt / 2 ^ k % 256
theorem fb_rng (w : Int32) (k : Nat) : 0 ≤ fb w k ∧ fb w k ≤ 255 := by unfold fb; omega
theorem bmod_cg {a b : Int} (h : a % 256 = b % 256) : Int.bmod a (2 ^ 8) = Int.bmod b (2 ^ 8) := by
  unfold Int.bmod
  have : ((2 ^ 8 : Nat) : Int) = 256 := rfl
  rw [this, h]
theorem byte_sh (w s : Int32) {k : Nat} (hk : k = 24 ∨ k = 16 ∨ k = 8 ∨ k = 0) (h2 : ((s.toUInt32 &&& Int32.toUInt32 31).toBitVec % 32).toNat = k) : ((w.toUInt32 >>> (s.toUInt32 &&& Int32.toUInt32 31)).toInt32).toInt8 = (iI (fb w k)).toInt8 := by
  have hr := fb_rng w k
  apply Int8.toInt_inj.mp
  rw [Int32.toInt_toInt8, Int32.toInt_toInt8, iI_toInt (z := fb w k) (by omega) (by omega)]
  apply bmod_cg
  have u := pk_ushr w s k h2
  obtain ⟨x, hx⟩ : ∃ x, x = (w.toUInt32 >>> (s.toUInt32 &&& Int32.toUInt32 31)).toInt32 := ⟨_, rfl⟩
  rw [← hx] at u ⊢
  have e2 : w.toInt = if 2 * w.toBitVec.toNat < 2 ^ 32 then (w.toBitVec.toNat : Int) else (w.toBitVec.toNat : Int) - ((2 ^ 32 : Nat) : Int) := BitVec.toInt_eq_toNat_cond w.toBitVec
  have e3 : x.toInt = if 2 * x.toBitVec.toNat < 2 ^ 32 then (x.toBitVec.toNat : Int) else (x.toBitVec.toNat : Int) - ((2 ^ 32 : Nat) : Int) := BitVec.toInt_eq_toNat_cond x.toBitVec
  have l1 := w.toBitVec.isLt
  have l2 := x.toBitVec.isLt
  unfold fb
  generalize w.toBitVec.toNat = n at *
  generalize x.toBitVec.toNat = m at *
  have p32 : (2 : Nat) ^ 32 = 4294967296 := rfl
  rw [p32] at e2 e3 l1 l2
  rcases hk with rfl | rfl | rfl | rfl
  · have p : (2 : Nat) ^ 24 = 16777216 := rfl
    have p' : (2 : Int) ^ 24 = 16777216 := rfl
    rw [p] at u
    rw [p']
    split at e2 <;> split at e3 <;> rw [e2, e3] <;> omega
  · have p : (2 : Nat) ^ 16 = 65536 := rfl
    have p' : (2 : Int) ^ 16 = 65536 := rfl
    rw [p] at u
    rw [p']
    split at e2 <;> split at e3 <;> rw [e2, e3] <;> omega
  · have p : (2 : Nat) ^ 8 = 256 := rfl
    have p' : (2 : Int) ^ 8 = 256 := rfl
    rw [p] at u
    rw [p']
    split at e2 <;> split at e3 <;> rw [e2, e3] <;> omega
  · have p : (2 : Nat) ^ 0 = 1 := rfl
    have p' : (2 : Int) ^ 0 = 1 := rfl
    rw [p] at u
    rw [p']
    split at e2 <;> split at e3 <;> rw [e2, e3] <;> omega
theorem nar_fb (w s : Int32) {k : Nat} (hk : k = 24 ∨ k = 16 ∨ k = 8 ∨ k = 0) (h2 : ((s.toUInt32 &&& Int32.toUInt32 31).toBitVec % 32).toNat = k) : vp_nar .byte (((w.toUInt32 >>> (s.toUInt32 &&& Int32.toUInt32 31)).toInt32).toInt8.toInt32) = vp_nar .byte (iI (fb w k)) := by
  rw [pk_vb, vp_nar_byte, byte_sh w s hk h2]
section
variable {β : Type} {h : hS} {a n : Nat}
theorem uB_i {j : Nat} {v : Int32} {f : hS → Option β} (hk : h_k h a = 52) (hl : h_n h a = n) (hj : j < n) (hn : n < 2 ^ 31) : uB h (some a) (iI j) v f = f (s_i h a j (vp_nar .byte v)) := by
  have h1 : inb (iI j) (h_n h a) := by rw [hl, ← nI_iI]; exact nI_in hj hn
  show (if h_k h a = 52 ∧ inb (iI j) (h_n h a) then f (s_i h a (iI j).toNatClampNeg (vp_nar .byte v)) else none) = _
  rw [if_pos ⟨hk, h1⟩, ← nI_iI, nI_clamp (by omega)]
theorem lnB_i {f : Int32 → Option β} (hk : h_k h a = 52) (hl : h_n h a = n) : lnB h (some a) f = f (iI n) := by
  show (if h_k h a = 52 ∨ h_k h a = 55 then f (Int32.ofNat (h_n h a)) else none) = _
  rw [if_pos (Or.inl hk), hl, ← nI_iI]; rfl
end
section
variable {ρ ρ' : Nat → Nat} {h g : hS} {Q : Nat → Nat} {S S' : StT} {Zs Zs' : Nat → Nat → Int} {I I' : Option StT} {T T' : Nat × (Nat → Int)} {f f' : Int} {ks ks' : List Nat} {F : FT}
theorem KW.tcg (K : KW ρ h Q S Zs I T f ks) (h1 : T'.1 = T.1) (h2 : ∀ i, i < T.1 → T'.2 i = T.2 i) : KW ρ h Q S Zs I T' f ks := by
  obtain ⟨a, b, c, d, e, ⟨q1, tp, q2, q3, q4, q5, q6, q7, q8⟩, z⟩ := K
  exact ⟨a, b, c, d, e, ⟨by rw [h1]; exact q1, tp, q2, q3, q4, q5, q6, by rw [h1]; exact q7, fun i hi => by rw [h1] at hi; rw [h2 i hi]; exact q8 i hi⟩, z⟩
theorem KW.tape (K : KW ρ h Q S Zs I T f ks) (hp : pTp h (Q 0) = 0) : ∃ tp, h_r h (Q 0) 0 = some tp ∧ h_k h tp = 52 ∧ ρ tp = 17 ∧ tp < h_x h ∧ h_n h tp = 600 := by
  obtain ⟨q1, tp, q2, q3, q4, q5, q6, q7, q8⟩ := K.2.2.2.2.2.1
  refine ⟨tp, q2, q3, q4, q5, ?_⟩
  unfold pTp at hp
  rw [q2] at hp
  simp only [] at hp
  rcases q6 with q6 | q6
  · rw [if_pos q6] at hp; omega
  · exact q6
/-- one byte comes behind the tape -/
theorem KW.fed (K : KW ρ h Q S Zs I T f ks) {tp : Nat} (r0 : h_r h (Q 0) 0 = some tp) (hn : h_n h tp = 600) (hT : T.1 < 600) {v : Int32} {b : Int} (hb : 0 ≤ b ∧ b ≤ 255) (hv : vp_nar .byte v = vp_nar .byte (iI b)) : KW ρ (s_i (s_i h tp T.1 (vp_nar .byte v)) (Q 0) 1 (iI ((T.1 + 1 : Nat) : Int))) Q S Zs I (T.1 + 1, fun i => if i = T.1 then b else T.2 i) f ks ∧ tr ρ h (rg 17) ρ (s_i (s_i h tp T.1 (vp_nar .byte v)) (Q 0) 1 (iI ((T.1 + 1 : Nat) : Int))) ∧ kpt (s_i (s_i h tp T.1 (vp_nar .byte v)) (Q 0) 1 (iI ((T.1 + 1 : Nat) : Int))) Q = kpt h Q ∧ pTp (s_i (s_i h tp T.1 (vp_nar .byte v)) (Q 0) 1 (iI ((T.1 + 1 : Nat) : Int))) (Q 0) = 0 := by
  have x := K.x
  obtain ⟨q1, tp', q2, q3, q4, q5, q6, q7, q8⟩ := K.2.2.2.2.2.1
  have e : tp' = tp := by rw [r0] at q2; injection q2 with q2; exact q2.symm
  subst e
  have ne : tp' ≠ Q 0 := fun e => by have := x.1; rw [← e, q3] at this; exact absurd this (by decide)
  have t : tr ρ h (rg 17) ρ (s_i (s_i h tp' T.1 (vp_nar .byte v)) (Q 0) 1 (iI ((T.1 + 1 : Nat) : Int))) := (tr_si q4).trans (tr_si x.2.1)
  have pt : pTp (s_i (s_i h tp' T.1 (vp_nar .byte v)) (Q 0) 1 (iI ((T.1 + 1 : Nat) : Int))) (Q 0) = 0 := by
    unfold pTp
    rw [show h_r (s_i (s_i h tp' T.1 (vp_nar .byte v)) (Q 0) 1 (iI ((T.1 + 1 : Nat) : Int))) (Q 0) 0 = some tp' from r0]
    simp only []
    show (if h_n h tp' = 0 then 613 else 0) = 0
    rw [if_neg (show ¬ h_n h tp' = 0 by omega)]
  have pt0 : pTp h (Q 0) = 0 := by
    unfold pTp
    rw [r0]
    simp only []
    rw [if_neg (show ¬ h_n h tp' = 0 by omega)]
  have im : IM ρ (s_i (s_i h tp' T.1 (vp_nar .byte v)) (Q 0) 1 (iI ((T.1 + 1 : Nat) : Int))) (Q 0) I := by
    have := K.2.2.2.2.1
    revert this
    cases I with
    | none => exact fun z => z
    | some S1 =>
      rintro ⟨P, p1, p2, p3⟩
      exact ⟨P, p1, p2.keep t (fun z => by have : (9 : Nat) = 17 := z; omega) (fun q h1 h2 z => by have : q = 17 := z; omega), p3⟩
  have pm : pIm (s_i (s_i h tp' T.1 (vp_nar .byte v)) (Q 0) 1 (iI ((T.1 + 1 : Nat) : Int))) (Q 0) = pIm h (Q 0) := rfl
  have tpp : TP ρ (s_i (s_i h tp' T.1 (vp_nar .byte v)) (Q 0) 1 (iI ((T.1 + 1 : Nat) : Int))) (Q 0) (T.1 + 1, fun i => if i = T.1 then b else T.2 i) := by
    refine ⟨by rw [h_i_si, if_pos rfl]; unfold upd; rw [if_pos rfl], tp', r0, q3, q4, q5, q6, by show T.1 + 1 ≤ h_n h tp'; omega, fun i hi => ?_⟩
    have hi' : i < T.1 + 1 := hi
    rw [h_i_si, if_neg ne, h_i_si, if_pos rfl]
    unfold upd
    show (0 ≤ (if i = T.1 then b else T.2 i) ∧ (if i = T.1 then b else T.2 i) ≤ 255) ∧ (if i = T.1 then vp_nar .byte v else h_i h tp' i) = vp_nar .byte (iI (if i = T.1 then b else T.2 i))
    by_cases e : i = T.1
    · rw [if_pos e, if_pos e, hv]; exact ⟨hb, rfl⟩
    · rw [if_neg e, if_neg e]; exact q8 i (by omega)
  obtain ⟨K1, m1⟩ := K.ow t (I' := I) (T' := (T.1 + 1, fun i => if i = T.1 then b else T.2 i)) (f' := f) (fun k _ _ => rfl) im tpp (by rw [h_i_si, if_pos rfl]; unfold upd; rw [if_neg (by decide), h_i_si, if_neg (fun e => ne e.symm)]; exact K.2.2.2.2.2.2)
  exact ⟨K1, t, by omega, pt⟩
theorem four_step (N : Nat) (K : KW ρ h Q S Zs I T f ks) (hp : pTp h (Q 0) = 0) (hT : T.1 < 600) (w : Int32) {k : Nat} (hk : k = 24 ∨ k = 16 ∨ k = 8 ∨ k = 0) (n : Nat) : ∃ g, f_K_feedFour_3 N (n + 1) h (Q 0) w (iI k) = f_K_feedFour_3 N n g (Q 0) w (iI ((k : Int) - 8)) ∧ KW ρ g Q S Zs I (T.1 + 1, fun i => if i = T.1 then fb w k else T.2 i) f ks ∧ tr ρ h (rg 17) ρ g ∧ hm g = hm h ∧ kpt g Q = kpt h Q ∧ pTp g (Q 0) = 0 := by
  obtain ⟨tp, t1, t2, t3, t4, t5⟩ := K.tape hp
  have x := K.x
  have q1 := K.2.2.2.2.2.1.1
  have hs : (((iI k).toUInt32 &&& Int32.toUInt32 31).toBitVec % 32).toNat = k := by rcases hk with rfl | rfl | rfl | rfl <;> decide
  have hv := nar_fb w (iI k) hk hs
  obtain ⟨K1, a2, a3, a4⟩ := K.fed t1 t5 hT (fb_rng w k) hv
  have ne : Q 0 ≠ tp := fun e => by have := x.1; rw [e, t2] at this; exact absurd this (by decide)
  refine ⟨_, ?_, K1, a2, rfl, a3, a4⟩
  have e8 : iI (k : Int) + (-8 : Int32) = iI ((k : Int) - 8) := by rw [show (-8 : Int32) = iI (-8) from by decide, iI_add]; rfl
  have e1 : iI (T.1 : Int) + (1 : Int32) = iI ((T.1 + 1 : Nat) : Int) := by rw [show (1 : Int32) = iI 1 from rfl, iI_add]; rfl
  have k1 : h_k (s_i h tp T.1 (vp_nar .byte (((w.toUInt32 >>> ((iI k).toUInt32 &&& Int32.toUInt32 31)).toInt32).toInt8.toInt32))) (Q 0) = 12 + 1 := x.1
  have i1 : h_i (s_i h tp T.1 (vp_nar .byte (((w.toUInt32 >>> ((iI k).toUInt32 &&& Int32.toUInt32 31)).toInt32).toInt8.toInt32))) (Q 0) 1 = iI T.1 := by rw [h_i_si, if_neg ne]; exact q1
  have key : ∀ (rc : hS → Nat → Int32 → Int32 → Option (Unit × hS)), (gI h (some (Q 0)) 12 1 fun v1 => gR h (some (Q 0)) 12 0 fun v2 => lnB h v2 fun v3 => if v3 ≤ v1 then (f_K_feedFour_42 N rc h (Q 0) w (iI k)) else (gR h (some (Q 0)) 12 0 fun v4 => gI h (some (Q 0)) 12 1 fun v5 => uB h v4 v5 (((w.toUInt32 >>> ((iI k).toUInt32 &&& Int32.toUInt32 31)).toInt32).toInt8.toInt32) fun h6 => gI h6 (some (Q 0)) 12 1 fun v7 => pI h6 (some (Q 0)) 12 1 (v7 + (1 : Int32)) fun h8 => f_K_feedFour_42 N rc h8 (Q 0) w (iI k))) = rc (s_i (s_i h tp T.1 (vp_nar .byte (((w.toUInt32 >>> ((iI k).toUInt32 &&& Int32.toUInt32 31)).toInt32).toInt8.toInt32))) (Q 0) 1 (iI ((T.1 + 1 : Nat) : Int))) (Q 0) w (iI ((k : Int) - 8)) := fun rc => by
    unfold f_K_feedFour_42
    rw [gI_k x.1, q1, gR_k x.1, t1, lnB_i t2 t5, if_neg (show ¬ iI ((600 : Nat) : Int) ≤ iI (T.1 : Int) from fun z => absurd ((iI_le (by omega) (by omega)).mp z) (by omega)), gR_k x.1, t1, gI_k x.1, q1, uB_i t2 t5 hT (by omega), gI_k k1, i1, pI_k k1, bn_i, e8, e1]
  have kk : (0 : Int) ≤ k := by omega
  conv => lhs; unfold f_K_feedFour_3
  rw [if_neg (show ¬ iI (k : Int) < (0 : Int32) from fun z => absurd ((iI_lt (b := 0) (by omega) (by omega)).mp z) (by omega))]
  exact key (f_K_feedFour_3 N n)
/-- four bytes come behind the tape -/
def tp4 (T : Nat × (Nat → Int)) (w : Int32) : Nat × (Nat → Int) := (T.1 + 4, fun i => if i < T.1 then T.2 i else fb w (24 - 8 * (i - T.1)))
theorem four_is (N : Nat) (hN : 100 ≤ N) (K : KW ρ h Q S Zs I T f ks) (hp : pTp h (Q 0) = 0) (hT : T.1 + 4 ≤ 600) (w : Int32) : ∃ g, f_K_feedFour N h (Q 0) w = some ((), g) ∧ KW ρ g Q S Zs I (tp4 T w) f ks ∧ tr ρ h (rg 17) ρ g ∧ hm g = hm h ∧ kpt g Q = kpt h Q ∧ pTp g (Q 0) = 0 := by
  obtain ⟨n, rfl⟩ : ∃ n, N = n + 5 := ⟨N - 5, by omega⟩
  obtain ⟨g1, a1, a2, a3, a4, a5, a6⟩ := four_step (n + 5) K hp (by omega) w (k := 24) (by omega) (n + 4)
  obtain ⟨g2, b1, b2, b3, b4, b5, b6⟩ := four_step (n + 5) a2 a6 (by show T.1 + 1 < 600; omega) w (k := 16) (by omega) (n + 3)
  obtain ⟨g3, c1, c2, c3, c4, c5, c6⟩ := four_step (n + 5) b2 b6 (by show T.1 + 1 + 1 < 600; omega) w (k := 8) (by omega) (n + 2)
  obtain ⟨g4, d1, d2, d3, d4, d5, d6⟩ := four_step (n + 5) c2 c6 (by show T.1 + 1 + 1 + 1 < 600; omega) w (k := 0) (by omega) (n + 1)
  refine ⟨g4, ?_, d2.tcg (T' := tp4 T w) rfl (fun i hi => ?_), ((a3.trans b3).trans c3).trans d3, by rw [d4, c4, b4, a4], by rw [d5, c5, b5, a5], d6⟩
  · unfold f_K_feedFour
    rw [show (24 : Int32) = iI ((24 : Nat) : Int) from rfl, a1, show iI (((24 : Nat) : Int) - 8) = iI ((16 : Nat) : Int) from rfl, b1, show iI (((16 : Nat) : Int) - 8) = iI ((8 : Nat) : Int) from rfl, c1, show iI (((8 : Nat) : Int) - 8) = iI ((0 : Nat) : Int) from rfl, d1]
    unfold f_K_feedFour_3
    rw [if_pos (by decide)]
  · have hi' : i < T.1 + 1 + 1 + 1 + 1 := hi
    show (if i < T.1 then T.2 i else fb w (24 - 8 * (i - T.1))) = if i = T.1 + 1 + 1 + 1 then fb w 0 else if i = T.1 + 1 + 1 then fb w 8 else if i = T.1 + 1 then fb w 16 else if i = T.1 then fb w 24 else T.2 i
    by_cases e0 : i < T.1
    · rw [if_pos e0, if_neg (by omega), if_neg (by omega), if_neg (by omega), if_neg (by omega)]
    · rw [if_neg e0]
      rcases (show i = T.1 ∨ i = T.1 + 1 ∨ i = T.1 + 1 + 1 ∨ i = T.1 + 1 + 1 + 1 by omega) with e | e | e | e
      · rw [if_neg (by omega), if_neg (by omega), if_neg (by omega), if_pos e, show 24 - 8 * (i - T.1) = 24 by omega]
      · rw [if_neg (by omega), if_neg (by omega), if_pos e, show 24 - 8 * (i - T.1) = 16 by omega]
      · rw [if_neg (by omega), if_pos e, show 24 - 8 * (i - T.1) = 8 by omega]
      · rw [if_pos e, show 24 - 8 * (i - T.1) = 0 by omega]
def feedT (T : Nat × (Nat → Int)) (a b c d e : Int32) : Nat × (Nat → Int) := tp4 (tp4 (tp4 (tp4 (tp4 T a) b) c) d) e
theorem feed_35 (N : Nat) (hN : 100 ≤ N) (K : KW ρ h Q S Zs I T f ks) (hp : pTp h (Q 0) = 0) (hT : T.1 + 20 ≤ 600) (a b c d e : Int32) : ∃ g, f_K_feed_35 N h (Q 0) a b c d e = some (iI ((T.1 + 20 : Nat) : Int), g) ∧ KW ρ g Q S Zs I (feedT T a b c d e) f ks ∧ tr ρ h (rg 17) ρ g ∧ hm g + kpt g Q = hm h + kpt h Q := by
  obtain ⟨g1, a1, a2, a3, a4, a5, a6⟩ := four_is N hN K hp (by omega) a
  obtain ⟨g2, b1, b2, b3, b4, b5, b6⟩ := four_is N hN a2 a6 (by show T.1 + 4 + 4 ≤ 600; omega) b
  obtain ⟨g3, c1, c2, c3, c4, c5, c6⟩ := four_is N hN b2 b6 (by show T.1 + 4 + 4 + 4 ≤ 600; omega) c
  obtain ⟨g4, d1, d2, d3, d4, d5, d6⟩ := four_is N hN c2 c6 (by show T.1 + 4 + 4 + 4 + 4 ≤ 600; omega) d
  obtain ⟨g5, e1, e2, e3, e4, e5, e6⟩ := four_is N hN d2 d6 (by show T.1 + 4 + 4 + 4 + 4 + 4 ≤ 600; omega) e
  refine ⟨g5, ?_, e2, (((a3.trans b3).trans c3).trans d3).trans e3, by omega⟩
  unfold f_K_feed_35
  rw [cv_k K.x.1, a1, cl_s, cv_k a2.x.1, b1, cl_s, cv_k b2.x.1, c1, cl_s, cv_k c2.x.1, d1, cl_s, cv_k d2.x.1, e1, cl_s, gI_k e2.x.1, e2.2.2.2.2.2.1.1]
  rfl
theorem feed_K (N : Nat) (hN : 100 ≤ N) (K : KS ρ h Q F ks) (a b c d e : Int32) : (F.2.2.1.1 + 20 ≤ 600 → KA ρ h Q ks (iI ((F.2.2.1.1 + 20 : Nat) : Int)) (F.1, F.2.1, feedT F.2.2.1 a b c d e, F.2.2.2) 0 (f_K_feed N h (Q 0) a b c d e)) ∧ (¬ F.2.2.1.1 + 20 ≤ 600 → KA ρ h Q ks (-1 : Int32) F 0 (f_K_feed N h (Q 0) a b c d e)) := by
  have K0 := K.w
  have v := K.2.2.2.1.2
  have x := K.x
  obtain ⟨q1, tp, q2, q3, q4, q5, q6, q7, q8⟩ := K0.2.2.2.2.2.1
  have e20 : iI (F.2.2.1.1 : Int) + (20 : Int32) = iI ((F.2.2.1.1 + 20 : Nat) : Int) := by rw [show (20 : Int32) = iI 20 from rfl, iI_add]; rfl
  have r17 : ∀ q, rg 17 q → RC q := fun q z => by have : q = 17 := z; unfold RC; omega
  constructor
  · intro hT
    rcases q6 with q6 | q6
    · -- a new row for the tape
      have t1 : tr ρ h (rg 17) (ext ρ h 17) (nw h 52 600 600) := tr_nw
      have hx0 : ext ρ h 17 (Q 0) = 17 := by unfold ext; rw [if_pos x.2.2]; exact x.2.1
      have t : tr ρ h (rg 17) (ext ρ h 17) (s_r (nw h 52 600 600) (Q 0) 0 (some (h_x h))) := t1.trans (tr_sr hx0)
      have ne : Q 0 ≠ h_x h := by have := x.2.2; omega
      have r0 : h_r (s_r (nw h 52 600 600) (Q 0) 0 (some (h_x h))) (Q 0) 0 = some (h_x h) := by rw [h_r_sr, if_pos rfl]; unfold va_up; rw [if_pos rfl]
      have rk : ∀ k, k ≠ 0 → h_r (s_r (nw h 52 600 600) (Q 0) 0 (some (h_x h))) (Q 0) k = h_r h (Q 0) k := fun k hk => by rw [h_r_sr, if_pos rfl]; unfold va_up; rw [if_neg hk, r_nw, if_neg ne]
      have ik : ∀ k, h_i (s_r (nw h 52 600 600) (Q 0) 0 (some (h_x h))) (Q 0) k = h_i h (Q 0) k := fun k => by rw [h_i_sr, i_nw, if_neg ne]
      have n0 : h_n (s_r (nw h 52 600 600) (Q 0) 0 (some (h_x h))) (h_x h) = 600 := by rw [h_n_sr, n_nw, if_pos rfl]
      have tpp : TP (ext ρ h 17) (s_r (nw h 52 600 600) (Q 0) 0 (some (h_x h))) (Q 0) F.2.2.1 := ⟨by rw [ik]; exact q1, h_x h, r0, by rw [h_k_sr, k_nw, if_pos rfl], by unfold ext; rw [if_neg (Nat.lt_irrefl _)], Nat.lt_succ_self _, Or.inr n0, by rw [n0]; omega, fun i hi => by omega⟩
      have im : IM (ext ρ h 17) (s_r (nw h 52 600 600) (Q 0) 0 (some (h_x h))) (Q 0) F.2.1 := by
        have := K0.2.2.2.2.1
        revert this
        cases F.2.1 with
        | none => intro z; show h_r (s_r (nw h 52 600 600) (Q 0) 0 (some (h_x h))) (Q 0) 17 = none; rw [rk 17 (by decide)]; exact z
        | some S1 =>
          rintro ⟨P, p1, p2, p3⟩
          exact ⟨P, by rw [rk 17 (by decide)]; exact p1, p2.keep t (fun z => by have : (9 : Nat) = 17 := z; omega) (fun q h1 h2 z => by have : q = 17 := z; omega), p3⟩
      obtain ⟨K1, m1⟩ := K0.ow t (I' := F.2.1) (T' := F.2.2.1) (f' := F.2.2.2) (fun k k0 _ => rk k k0) im tpp (by rw [ik]; exact K0.2.2.2.2.2.2)
      have p1 : pTp (s_r (nw h 52 600 600) (Q 0) 0 (some (h_x h))) (Q 0) = 0 := by unfold pTp; rw [r0]; simp only []; rw [n0, if_neg (by decide)]
      have p2 : pTp h (Q 0) = 613 := by unfold pTp; rw [q2]; simp only []; rw [if_pos q6]
      have p3 : pIm (s_r (nw h 52 600 600) (Q 0) 0 (some (h_x h))) (Q 0) = pIm h (Q 0) := by
        unfold pIm
        rw [rk 17 (by decide)]
        have := K0.2.2.2.2.1
        revert this
        cases F.2.1 with
        | none => intro z; have z' : h_r h (Q 0) 17 = none := z; rw [z']
        | some S1 =>
          rintro ⟨P, p1, p2, p3⟩
          rw [p1]
          obtain ⟨lob, Z⟩ := p2.y
          exact Z.pk t (fun z => by have : (9 : Nat) = 17 := z; omega) (fun q h1 h2 z => by have : q = 17 := z; omega)
      have m2 : hm (s_r (nw h 52 600 600) (Q 0) 0 (some (h_x h))) = hm h + 613 := by show 13 * (h_x h + 1) + (h_s h + 600) = 13 * h_x h + h_s h + 613; omega
      obtain ⟨g2, a1, a2, a3, a4⟩ := feed_35 N hN K1 p1 hT a b c d e
      refine ⟨ext ρ h 17, g2, ks, ?_, KW.s (F := (F.1, F.2.1, feedT F.2.2.1 a b c d e, F.2.2.2)) a2 (fun _ _ => rfl) v, (t.trans a3).mono r17, by omega, by omega⟩
      unfold f_K_feed f_K_feed_32
      rw [gI_k x.1, q1, e20, if_pos (show iI ((F.2.2.1.1 + 20 : Nat) : Int) ≤ (600 : Int32) from (iI_le (b := 600) (by omega) (by omega)).mpr (by omega)), gR_k x.1, q2, lnB_i q3 q6, if_neg (by decide), show (600 : Int32) = iI ((600 : Nat) : Int) from rfl, nwA_n (by omega), pR_k (show h_k (nw h 52 600 600) (Q 0) = 12 + 1 by rw [k_nw, if_neg ne]; exact x.1)]
      exact a1
    · have p2 : pTp h (Q 0) = 0 := by unfold pTp; rw [q2]; simp only []; rw [if_neg (by omega)]
      obtain ⟨g2, a1, a2, a3, a4⟩ := feed_35 N hN K0 p2 hT a b c d e
      refine ⟨ρ, g2, ks, ?_, KW.s (F := (F.1, F.2.1, feedT F.2.2.1 a b c d e, F.2.2.2)) a2 (fun _ _ => rfl) v, a3.mono r17, by omega, by omega⟩
      unfold f_K_feed
      rw [gI_k x.1, q1, e20, if_pos (show iI ((F.2.2.1.1 + 20 : Nat) : Int) ≤ (600 : Int32) from (iI_le (b := 600) (by omega) (by omega)).mpr (by omega)), gR_k x.1, q2, lnB_i q3 q6, if_pos (by decide)]
      exact a1
  · intro hT
    refine ⟨ρ, h, ks, ?_, K, tr.rf, by omega, by omega⟩
    unfold f_K_feed
    rw [gI_k x.1, q1, e20, if_neg (show ¬ iI ((F.2.2.1.1 + 20 : Nat) : Int) ≤ (600 : Int32) from fun z => absurd ((iI_le (b := 600) (by omega) (by omega)).mp z) (by omega))]
end
