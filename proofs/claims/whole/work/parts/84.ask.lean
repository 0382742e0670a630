/-! SHARING: some costs stand at places that make x together -/
theorem turn_mono {Z : Nat → Int} (hn : zNn Z) {s t : Int} (h : s ≤ t) : zTurn Z s ≤ zTurn Z t := by
  have r1 := zTurn_rng Z s
  have r2 := zTurn_rng Z t
  by_cases e : zTurn Z t = 100000000
  · omega
  · exact (turn_iff hn s (zTurn Z t) (by omega) (by omega)).mpr (Int.le_trans h ((turn_iff hn t (zTurn Z t) (by omega) (by omega)).mp (Int.le_refl _)))
/-- a slope that the table has, and not its last: where it turns to the next is a place -/
theorem turn_in {Z : Nat → Int} {s : Int} (h1 : Z 0 < s) (h2 : s ≤ zS Z 10001) : -5000 ≤ zTurn Z s ∧ zTurn Z s ≤ 5000 := by
  rcases zTurn_spec Z s with ⟨a, b⟩ | ⟨a, b⟩ | ⟨j, a1, a2, a3, a4⟩ <;> omega
theorem wts_is (Z : Nat → Int) : zWts Z - -Z 0 = zS Z 10001 := by rw [zS_all, Int.sub_neg, Int.add_comm]
def tLo (C : Cs) : List Nat → Int → Int
  | [], a => a
  | c :: t, a => tLo C t (max a (zC C c 0))
def tHi (C : Cs) : List Nat → Int → Int
  | [], a => a
  | c :: t, a => tHi C t (min a (zS (zC C c) 10001))
def tSum (C : Cs) : List Nat → Int → Int
  | [], _ => 0
  | c :: t, s => zTurn (zC C c) s + tSum C t s
/-- what the members pay, each where it stands at the slope s, less the slope's share -/
def gSum (C : Cs) : List Nat → Int → Int
  | [], _ => 0
  | c :: t, s => zVal (zC C c) (zStand (zC C c) s) - s * zStand (zC C c) s + gSum C t s
/-- the lowest slope at which they reach x -/
def zShS (C : Cs) (cs : List Nat) (x s : Int) : Prop := (tLo C cs (-5000) ≤ s ∧ s ≤ tHi C cs 5000) ∧ (∀ t, tLo C cs (-5000) ≤ t → t < s → tSum C cs (t + 1) < x) ∧ (s = tHi C cs 5000 ∨ x ≤ tSum C cs (s + 1))
theorem tLo_le (C : Cs) : ∀ (cs : List Nat) (a : Int), a ≤ tLo C cs a ∧ ∀ c ∈ cs, zC C c 0 ≤ tLo C cs a := by
  intro cs
  induction cs with
  | nil => intro a; simp [tLo]
  | cons c t ih =>
    intro a
    obtain ⟨h1, h2⟩ := ih (max a (zC C c 0))
    rw [tLo]
    refine ⟨by omega, fun d hd => ?_⟩
    rcases List.mem_cons.mp hd with e | e
    · subst e; omega
    · exact h2 d e
theorem tHi_le (C : Cs) : ∀ (cs : List Nat) (a : Int), tHi C cs a ≤ a ∧ ∀ c ∈ cs, tHi C cs a ≤ zS (zC C c) 10001 := by
  intro cs
  induction cs with
  | nil => intro a; simp [tHi]
  | cons c t ih =>
    intro a
    obtain ⟨h1, h2⟩ := ih (min a (zS (zC C c) 10001))
    rw [tHi]
    refine ⟨by omega, fun d hd => ?_⟩
    rcases List.mem_cons.mp hd with e | e
    · subst e; omega
    · exact h2 d e
theorem tLo_0 (C : Cs) : ∀ (cs : List Nat) (a : Int), a ≤ 0 → (∀ c ∈ cs, zVee (zC C c)) → tLo C cs a ≤ 0 := by
  intro cs
  induction cs with
  | nil => intro a ha _; exact ha
  | cons c t ih => intro a ha hv; exact ih _ (by have := (hv c (by simp)).2.1; omega) (fun d hd => hv d (by simp [hd]))
theorem tHi_0 (C : Cs) : ∀ (cs : List Nat) (a : Int), 0 ≤ a → (∀ c ∈ cs, zVee (zC C c)) → 0 ≤ tHi C cs a := by
  intro cs
  induction cs with
  | nil => intro a ha _; exact ha
  | cons c t ih => intro a ha hv; rw [tHi]; exact ih _ (Int.le_min.mpr ⟨ha, (hv c (by simp)).2.2⟩) (fun d hd => hv d (by simp [hd]))
theorem tSum_mono {C : Cs} {cs : List Nat} (hv : ∀ c ∈ cs, zVee (zC C c)) {s t : Int} (h : s ≤ t) : tSum C cs s ≤ tSum C cs t := by
  induction cs with
  | nil => exact Int.le_refl _
  | cons c k ih =>
    have h1 := turn_mono (hv c (by simp)).1 h
    have h2 := ih (fun d hd => hv d (by simp [hd]))
    rw [tSum, tSum]; omega
theorem zShS_un {C : Cs} {cs : List Nat} {x s t : Int} (h1 : zShS C cs x s) (h2 : zShS C cs x t) : s = t := by
  obtain ⟨a1, a2, a3⟩ := h1
  obtain ⟨b1, b2, b3⟩ := h2
  rcases Int.lt_trichotomy s t with q | q | q
  · have := b2 s a1.1 q; omega
  · exact q
  · have := a2 t b1.1 q; omega
theorem xor_neg {a : Int} (ha : -1000000 ≤ a ∧ a ≤ 1000000) : (0 : Int32) ≤ (iI a ^^^ 2) ↔ 0 ≤ a := by
  have e : ((iI a ^^^ 2).toBitVec).msb = (iI a).toBitVec.msb := by
    rw [show (iI a ^^^ 2).toBitVec = (iI a).toBitVec ^^^ (2 : Int32).toBitVec from rfl, BitVec.msb_xor, show (2 : Int32).toBitVec.msb = false from rfl, Bool.xor_false]
  rw [BitVec.msb_eq_toInt, BitVec.msb_eq_toInt] at e
  have e1 : (iI a).toBitVec.toInt = a := iI_toInt (by omega) (by omega)
  rw [e1] at e
  have e2 : (iI a ^^^ 2).toBitVec.toInt = (iI a ^^^ 2).toInt := rfl
  rw [e2] at e
  have e3 : (iI a ^^^ 2).toInt < 0 ↔ a < 0 := by
    have := congrArg (· = true) e
    simp only [decide_eq_true_eq] at this
    exact iff_of_eq this
  rw [Int32.le_iff_toInt_le, show (0 : Int32).toInt = 0 from rfl]
  omega
theorem floor_is (N : Nat) (h : hS) {a : Int} (ha : -1000000 ≤ a ∧ a ≤ 1000000) : f_Mth_floorDiv_7cf53 N h (iI a) (2 : Int32) = some (iI (a / 2), h) := by
  unfold f_Mth_floorDiv_7cf53 f_Mth_floorDiv_7cf53_21
  have ed : iI a / (2 : Int32) = iI (a.tdiv 2) := by
    apply Int32.toInt_inj.mp
    have hb : -1000000 ≤ a.tdiv 2 ∧ a.tdiv 2 ≤ 1000000 := by
      rcases Int.le_total 0 a with q | q
      · rw [Int.tdiv_eq_ediv_of_nonneg q]; omega
      · have : a.tdiv 2 = -((-a).tdiv 2) := by rw [Int.neg_tdiv, Int.neg_neg]
        rw [this, Int.tdiv_eq_ediv_of_nonneg (by omega)]; omega
    rw [Int32.toInt_div_of_ne_right _ _ (by decide), iI_toInt (by omega) (by omega), iI_toInt (by omega) (by omega)]
    rfl
  rw [dv_ok (by decide), ed, bn_i]
  by_cases q : 0 ≤ a
  · rw [if_pos ((xor_neg ha).mpr q), Int.tdiv_eq_ediv_of_nonneg q]
  · rw [if_neg (fun z => q ((xor_neg ha).mp z))]
    have e : a.tdiv 2 = -(-a / 2) := by
      rw [← Int.tdiv_eq_ediv_of_nonneg (a := -a) (by omega), Int.neg_tdiv, Int.neg_neg]
    rw [e, show (2 : Int32) = iI 2 from rfl, iI_mul]
    by_cases z : -(-a / 2) * 2 = a
    · rw [if_pos (by rw [z]), show -(-a / 2) = a / 2 by omega]
    · rw [if_neg (fun y => z ((iI_eq (by omega) (by omega)).mp y)), show (1 : Int32) = iI 1 from rfl, iI_sub, show -(-a / 2) - 1 = a / 2 by omega]
section
variable {ρ : Nat → Nat} {h : hS} {Q : Nat → Nat} {F : FT} {ks : List Nat}
/-- the team: the first of its row are these costs' curves -/
def TM (h : hS) (Q : Nat → Nat) (cs : List Nat) : Prop := cs.length ≤ 4 ∧ (∀ c ∈ cs, c < 4) ∧ ∀ i, (hi : i < cs.length) → h_r h (Q 14) i = some (Q (20 + cs[i]))
theorem KS.tm (K : KS ρ h Q F ks) {cs : List Nat} (T : TM h Q cs) {i : Nat} (hi : i < cs.length) {β : Type} (f : Option Nat → Option β) : aR h 63 (some (Q 14)) (iI i) f = f (some (Q (20 + cs[i]))) := by
  have hk := K.ko (i := 14) (k := 63) (l := 8) (n := 4) (by decide)
  rw [aR_i hk.1 hk.2 (by have := T.1; omega) (by omega), T.2.2 i hi]
theorem KS.tmz (K : KS ρ h Q F ks) {cs : List Nat} (T : TM h Q cs) {i : Nat} (hi : i < cs.length) : CZ ρ (20 + cs[i]) h (Q (20 + cs[i])) (zC F.1.1 cs[i]) := K.2.2.1 _ (T.2.1 _ (List.getElem_mem hi))
theorem KS.tv (K : KS ρ h Q F ks) {cs : List Nat} (T : TM h Q cs) : ∀ c ∈ cs, zVee (zC F.1.1 c) := fun c hc => (K.2.2.1 _ (T.2.1 _ hc)).2.1
theorem ft_in {t : Int} (h : -5000 ≤ t ∧ t ≤ 5000) : ft t = t := by unfold ft; rw [if_neg (by omega), if_neg (by omega)]
theorem ends_loop (N : Nat) (hN : 20000 ≤ N) (K : KS ρ h Q F ks) {cs : List Nat} (T : TM h Q cs) {s : Int} (hs : tLo F.1.1 cs (-5000) ≤ s ∧ s < tHi F.1.1 cs 5000) : ∀ (m i : Nat) (a : Int) (fuel : Nat), i + m = cs.length → f_K_highEndsTogether_5 N (m + (fuel + 1)) h (Q 0) (iI cs.length) (iI s) (lI a) (iI i) = some (lI (a + tSum F.1.1 (cs.drop i) (s + 1)), h) := by
  have hl := tLo_le F.1.1 cs (-5000)
  have hh := tHi_le F.1.1 cs 5000
  have h4 := T.1
  intro m
  induction m with
  | zero =>
    intro i a fuel hi
    rw [Nat.zero_add]
    unfold f_K_highEndsTogether_5 f_K_highEndsTogether_42
    rw [if_pos ((iI_le (by omega) (by omega)).mpr (by omega)), List.drop_eq_nil_of_le (by omega), tSum, Int.add_zero]
  | succ m ih =>
    intro i a fuel hi
    have hic : i < cs.length := by omega
    have z := K.tmz T hic
    have q1 := hl.2 _ (List.getElem_mem hic)
    have q2 := hh.2 _ (List.getElem_mem hic)
    have ti := turn_in (Z := zC F.1.1 cs[i]) (s := s + 1) (by omega) (by omega)
    have hk := K.ko (i := 14) (k := 63) (l := 8) (n := 4) (by decide)
    have high := chigh_is N (by omega) z.1 (s := s) (by omega)
    rw [show -zC F.1.1 cs[i] 0 + s + 1 = -zC F.1.1 cs[i] 0 + (s + 1) by omega, cUnit_turn z.2.1.1 (s + 1), ft_in ti] at high
    rw [show m + 1 + (fuel + 1) = (m + (fuel + 1)) + 1 by omega]
    unfold f_K_highEndsTogether_5 f_K_highEndsTogether_42
    rw [if_neg (show ¬ iI cs.length ≤ iI i from fun q => absurd ((iI_le (by omega) (by omega)).mp q) (by omega)), gR_k K.x.1, K.ref (i := 0) (k := 14) (j := 14) (by decide), lnR hk.1 hk.2, if_neg (show ¬ iI (4 : Nat) ≤ iI i from fun q => absurd ((iI_le (by omega) (by omega)).mp q) (by omega)), gR_k K.x.1, K.ref (i := 0) (k := 14) (j := 14) (by decide), K.tm T hic, cv_k z.1.k, high, cl_s, iI_l (by omega) (by omega), lI_add, bn_i, show (1 : Int32) = iI 1 from rfl, iI_add, bn_i, show (i : Int) + 1 = ((i + 1 : Nat) : Int) by omega, ih (i + 1) _ fuel (by omega), List.drop_eq_getElem_cons hic, tSum, Int.add_assoc]
theorem ends_is (N : Nat) (hN : 20000 ≤ N) (K : KS ρ h Q F ks) {cs : List Nat} (T : TM h Q cs) {s : Int} (hs : tLo F.1.1 cs (-5000) ≤ s ∧ s < tHi F.1.1 cs 5000) : f_K_highEndsTogether N h (Q 0) (iI cs.length) (iI s) = some (lI (tSum F.1.1 cs (s + 1)), h) := by
  obtain ⟨fuel, hfu⟩ : ∃ fuel, N = cs.length + (fuel + 1) := ⟨N - cs.length - 1, by have := T.1; omega⟩
  have := ends_loop N hN K T hs cs.length 0 0 fuel (by omega)
  rw [← hfu, Int.zero_add, List.drop_zero] at this
  exact this
theorem tSum_bd {C : Cs} : ∀ (cs : List Nat) (s : Int), cs.length ≤ 4 → -(100000000 * (cs.length : Int)) ≤ tSum C cs s ∧ tSum C cs s ≤ 100000000 * (cs.length : Int) := by
  intro cs
  induction cs with
  | nil => intro s _; simp [tSum]
  | cons c t ih =>
    intro s hl
    simp only [List.length_cons] at hl
    have := ih s (by omega)
    have := zTurn_rng (zC C c) s
    rw [tSum, List.length_cons, show ((t.length + 1 : Nat) : Int) = (t.length : Int) + 1 by omega]
    omega
theorem common_loop (N : Nat) (hN : 20000 ≤ N) (K : KS ρ h Q F ks) {cs : List Nat} (T : TM h Q cs) {x : Int} (hx : -100000 ≤ x ∧ x ≤ 100000) : ∀ (m : Nat) (lo hi : Int) (fuel : Nat), m ≤ 32 → (tLo F.1.1 cs (-5000) ≤ lo ∧ lo ≤ hi ∧ hi ≤ tHi F.1.1 cs 5000) → hi - lo < 2 ^ m → (∀ t, tLo F.1.1 cs (-5000) ≤ t → t < lo → tSum F.1.1 cs (t + 1) < x) → (hi = tHi F.1.1 cs 5000 ∨ x ≤ tSum F.1.1 cs (hi + 1)) → ∃ s, zShS F.1.1 cs x s ∧ f_K_commonSlope_81 N (m + (fuel + 1)) h (Q 0) (iI cs.length) (iI x) (iI lo) (iI hi) (iI (32 - m)) = some (iI s, h) := by
  have hl := tLo_le F.1.1 cs (-5000)
  have hh := tHi_le F.1.1 cs 5000
  have hv := K.tv T
  have h4 := T.1
  intro m
  induction m with
  | zero =>
    intro lo hi fuel _ hl hd h1 h2
    have he : hi = lo := by simp at hd; omega
    subst he
    refine ⟨hi, ⟨by omega, h1, h2⟩, ?_⟩
    rw [Nat.zero_add]
    unfold f_K_commonSlope_81 f_K_commonSlope_135
    rw [if_pos (show (32 : Int32) ≤ iI (32 - (0 : Nat)) by decide)]
  | succ m ih =>
    intro lo hi fuel hm hb hd h1 h2
    rw [show m + 1 + (fuel + 1) = (m + (fuel + 1)) + 1 by omega]
    generalize hR : f_K_commonSlope_81 N (m + (fuel + 1)) = R
    by_cases e : hi ≤ lo
    · have he : hi = lo := by omega
      subst he
      refine ⟨hi, ⟨by omega, h1, h2⟩, ?_⟩
      unfold f_K_commonSlope_81 f_K_commonSlope_135
      rw [if_neg (show ¬ (32 : Int32) ≤ iI (32 - ((m + 1 : Nat) : Int)) from fun q => absurd ((iI_le (a := 32) (by omega) (by omega)).mp q) (by omega)), if_pos ((iI_le (by omega) (by omega)).mpr (Int.le_refl _))]
    · obtain ⟨md, hmd⟩ : ∃ md, md = (lo + hi) / 2 := ⟨_, rfl⟩
      have hmd1 : lo ≤ md ∧ md < hi := by omega
      have hp : (2 : Int) ^ (m + 1) = 2 * 2 ^ m := by rw [Int.pow_succ]; omega
      rw [hp] at hd
      have tb := tSum_bd (C := F.1.1) cs (md + 1) h4
      have st : f_K_commonSlope_81 N (m + (fuel + 1) + 1) h (Q 0) (iI cs.length) (iI x) (iI lo) (iI hi) (iI (32 - ((m + 1 : Nat) : Int))) = if tSum F.1.1 cs (md + 1) < x then R h (Q 0) (iI cs.length) (iI x) (iI (md + 1)) (iI hi) (iI (32 - m)) else R h (Q 0) (iI cs.length) (iI x) (iI lo) (iI md) (iI (32 - m)) := by
        unfold f_K_commonSlope_81 f_K_commonSlope_129
        rw [hR, if_neg (show ¬ (32 : Int32) ≤ iI (32 - ((m + 1 : Nat) : Int)) from fun q => absurd ((iI_le (a := 32) (by omega) (by omega)).mp q) (by omega)), if_neg (fun q => e ((iI_le (by omega) (by omega)).mp q)), iI_add, floor_is N h (by omega), ← hmd, cl_s, cv_k K.x.1, ends_is N hN K T (by omega), cl_s, iI_l (by omega) (by omega)]
        have en : iI (32 - ((m + 1 : Nat) : Int)) + (1 : Int32) = iI (32 - m) := by
          rw [show (1 : Int32) = iI 1 from rfl, iI_add]; congr 1; omega
        by_cases q : tSum F.1.1 cs (md + 1) < x
        · rw [if_pos (show lg_cmp (lI (tSum F.1.1 cs (md + 1))) (lI x) < (0 : Int32) from (lg_lt0 (by omega) (by omega)).mpr q), if_pos q, en, show (1 : Int32) = iI 1 from rfl, iI_add, bn_i, bn_i]
        · rw [if_neg (show ¬ lg_cmp (lI (tSum F.1.1 cs (md + 1))) (lI x) < (0 : Int32) from fun z => q ((lg_lt0 (by omega) (by omega)).mp z)), if_neg q, en, bn_i]
      rw [st]
      by_cases q : tSum F.1.1 cs (md + 1) < x
      · rw [if_pos q, ← hR]
        refine ih (md + 1) hi fuel (by omega) (by omega) (by omega) (fun t t1 t2 => ?_) h2
        have := tSum_mono hv (show t + 1 ≤ md + 1 by omega)
        omega
      · rw [if_neg q, ← hR]
        exact ih lo md fuel (by omega) (by omega) (by omega) h1 (Or.inr (by omega))
theorem range_loop (N : Nat) (hN : 20000 ≤ N) (K : KS ρ h Q F ks) {cs : List Nat} (T : TM h Q cs) (x : Int32) : ∀ (m i : Nat) (lo hi : Int) (fuel : Nat), i + m = cs.length → (-5000 ≤ lo ∧ lo ≤ 5000) → (-5000 ≤ hi ∧ hi ≤ 5000) → f_K_commonSlope_12 N (m + (fuel + 1)) h (Q 0) (iI cs.length) x (iI lo) (iI hi) (iI i) = f_K_commonSlope_81 N N h (Q 0) (iI cs.length) x (iI (tLo F.1.1 (cs.drop i) lo)) (iI (tHi F.1.1 (cs.drop i) hi)) (iI 0) := by
  have h4 := T.1
  intro m
  induction m with
  | zero =>
    intro i lo hi fuel hi1 _ _
    rw [Nat.zero_add]
    unfold f_K_commonSlope_12 f_K_commonSlope_78
    rw [if_pos ((iI_le (by omega) (by omega)).mpr (by omega)), List.drop_eq_nil_of_le (by omega), tLo, tHi]
    rfl
  | succ m ih =>
    intro i lo hi fuel hi1 hlo hhi
    have hic : i < cs.length := by omega
    have z := K.tmz T hic
    have hr := z.2.rng
    have hk := K.ko (i := 14) (k := 63) (l := 8) (n := 4) (by decide)
    have hz := z.2.1.2
    have b1 : (-2147483648 ≤ zS (zC F.1.1 cs[i]) 10001 ∧ zS (zC F.1.1 cs[i]) 10001 ≤ 2147483647) ∧ (-5000 ≤ min hi (zS (zC F.1.1 cs[i]) 10001) ∧ min hi (zS (zC F.1.1 cs[i]) 10001) ≤ 5000) := by
      generalize zS (zC F.1.1 cs[i]) 10001 = q at hr hz
      omega
    have b2 : (-2147483648 ≤ - -zC F.1.1 cs[i] 0 ∧ - -zC F.1.1 cs[i] 0 ≤ 2147483647) ∧ (-5000 ≤ max lo (- -zC F.1.1 cs[i] 0) ∧ max lo (- -zC F.1.1 cs[i] 0) ≤ 5000) := by
      generalize zS (zC F.1.1 cs[i]) 10001 = q at hr hz
      omega
    clear hr hz
    rw [show m + 1 + (fuel + 1) = (m + (fuel + 1)) + 1 by omega]
    generalize hR : f_K_commonSlope_12 N (m + (fuel + 1)) = R
    unfold f_K_commonSlope_12 f_K_commonSlope_78
    rw [hR, if_neg (show ¬ iI cs.length ≤ iI i from fun q => absurd ((iI_le (by omega) (by omega)).mp q) (by omega)), gR_k K.x.1, K.ref (i := 0) (k := 14) (j := 14) (by decide), lnR hk.1 hk.2, if_neg (show ¬ iI (4 : Nat) ≤ iI i from fun q => absurd ((iI_le (by omega) (by omega)).mp q) (by omega)), gR_k K.x.1, K.ref (i := 0) (k := 14) (j := 14) (by decide), K.tm T hic, gI_k z.1.k, z.1.f.2.1, iI_neg, jmx_is (by omega) b2.1, bn_i, gR_k K.x.1, K.ref (i := 0) (k := 14) (j := 14) (by decide), K.tm T hic, gI_k z.1.k, z.1.f.2.2.1, gR_k K.x.1, K.ref (i := 0) (k := 14) (j := 14) (by decide), K.tm T hic, gI_k z.1.k, z.1.f.2.1, zK_sum, iI_sub, wts_is, jmn_is (by omega) b1.1, bn_i, show (1 : Int32) = iI 1 from rfl, iI_add, bn_i, show (i : Int) + 1 = ((i + 1 : Nat) : Int) by omega, ← hR, ih (i + 1) _ _ fuel (by omega) b2.2 b1.2, List.drop_eq_getElem_cons hic, tLo, tHi, Int.neg_neg]
theorem common_is (N : Nat) (hN : 20000 ≤ N) (K : KS ρ h Q F ks) {cs : List Nat} (T : TM h Q cs) {x : Int} (hx : -100000 ≤ x ∧ x ≤ 100000) {s : Int} (hs : zShS F.1.1 cs x s) : f_K_commonSlope N h (Q 0) (iI cs.length) (iI x) = some (iI s, h) := by
  have h4 := T.1
  have hv := K.tv T
  have l0 := tLo_0 F.1.1 cs (-5000) (by omega) hv
  have r0 := tHi_0 F.1.1 cs 5000 (by omega) hv
  have l1 := (tLo_le F.1.1 cs (-5000)).1
  have r1 := (tHi_le F.1.1 cs 5000).1
  obtain ⟨fuel, hfu⟩ : ∃ fuel, N = cs.length + (fuel + 1) := ⟨N - cs.length - 1, by omega⟩
  obtain ⟨fuel2, hfu2⟩ : ∃ fuel, N = 32 + (fuel + 1) := ⟨N - 33, by omega⟩
  have e1 := range_loop N hN K T (iI x) cs.length 0 (-5000) 5000 fuel (by omega) (by omega) (by omega)
  rw [← hfu, List.drop_zero] at e1
  obtain ⟨t, t1, t2⟩ := common_loop N hN K T hx 32 (tLo F.1.1 cs (-5000)) (tHi F.1.1 cs 5000) fuel2 (by omega) (by omega) (by omega) (fun t a b => by omega) (Or.inl rfl)
  rw [← hfu2] at t2
  rw [zShS_un hs t1]
  unfold f_K_commonSlope
  rw [show (-5000 : Int32) = iI (-5000) by decide]
  exact e1.trans t2
end
