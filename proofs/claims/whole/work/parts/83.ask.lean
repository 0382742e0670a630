/-- by how much a table goes up from x to the next place -/
def zSlp (Z : Nat → Int) (x : Int) : Int := zVal Z (x + 1) - zVal Z x
theorem zF_mono {φ ψ : Int → Int} : ∀ L : List (Int × Int), (∀ e ∈ L, 0 ≤ e.2) → (∀ p, φ p ≤ ψ p) → zF φ L ≤ zF ψ L := by
  intro L h1 h2
  have e : zF ψ L = zF φ L + zF (fun p => ψ p - φ p) L := by
    rw [← zF_add]; exact zF_congr _ (fun e _ _ => by omega)
  have := zF_nn (φ := fun p => ψ p - φ p) L h1 (fun p => by have := h2 p; omega)
  omega
theorem zL_nn {Z : Nat → Int} (hn : zNn Z) : ∀ e ∈ zL Z, 0 ≤ e.2 := fun e he => by
  obtain ⟨j, j1, j2, rfl⟩ := zL_mem he
  exact hn _ (by omega) (by omega)
theorem slp_mono {Z : Nat → Int} (hn : zNn Z) {x y : Int} (h : x ≤ y) : zSlp Z x ≤ zSlp Z y := by
  unfold zSlp
  rw [zVal_slope, zVal_slope]
  have := zF_mono (φ := fun p => if p ≤ x then 1 else 0) (ψ := fun p => if p ≤ y then 1 else 0) (zL Z) (zL_nn hn) (fun p => by split <;> split <;> omega)
  omega
theorem slp_S (Z : Nat → Int) (n : Nat) : zSlp Z ((n : Int) - 5001) = zS Z n := by
  unfold zSlp
  rw [zVal_slope, zS_form, Int.add_zero]
  congr 1
  exact zF_congr _ (fun e _ _ => by split <;> split <;> omega)
theorem slp_far {Z : Nat → Int} (hn : zNn Z) (x : Int) : Z 0 ≤ zSlp Z x ∧ zSlp Z x ≤ zS Z 10001 := by
  constructor
  · unfold zSlp
    rw [zVal_slope]
    have := zF_nn (φ := fun p => if p ≤ x then 1 else 0) (zL Z) (zL_nn hn) (fun p => by split <;> omega)
    omega
  · rcases Int.le_total x 5000 with h | h
    · have := slp_mono hn h
      have e := slp_S Z 10001
      rw [show ((10001 : Nat) : Int) - 5001 = 5000 by omega] at e
      omega
    · have e := slp_S Z (x + 5001).toNat
      rw [show (((x + 5001).toNat : Nat) : Int) - 5001 = x by omega, zS_far Z _ (by omega)] at e
      omega
/-- where a table turns to a slope: from there on it goes by no less -/
theorem turn_iff {Z : Nat → Int} (hn : zNn Z) (s x : Int) (h1 : -100000000 ≤ x) (h2 : x < 100000000) : zTurn Z s ≤ x ↔ s ≤ zSlp Z x := by
  have hf := slp_far hn x
  rcases zTurn_spec Z s with ⟨a, b⟩ | ⟨a, b⟩ | ⟨j, a1, a2, a3, a4⟩
  · exact ⟨fun _ => by omega, fun _ => by omega⟩
  · exact ⟨fun _ => by omega, fun _ => by omega⟩
  · constructor
    · intro q
      have e := slp_S Z (j + 1)
      have := slp_mono hn (show ((j + 1 : Nat) : Int) - 5001 ≤ x by omega)
      omega
    · intro q
      rcases Int.lt_or_le x (zTurn Z s) with z | z
      · have e := slp_S Z j
        have := slp_mono hn (show x ≤ (j : Int) - 5001 by omega)
        omega
      · exact z
theorem val_bd {Z : Nat → Int} (h : zInv Z) : ∀ n : Nat, (-(5000 * (n : Int)) ≤ zVal Z n - zVal Z 0 ∧ zVal Z n - zVal Z 0 ≤ 5000 * (n : Int)) ∧ (-(5000 * (n : Int)) ≤ zVal Z (-(n : Int)) - zVal Z 0 ∧ zVal Z (-(n : Int)) - zVal Z 0 ≤ 5000 * (n : Int)) := by
  intro n
  induction n with
  | zero => simp
  | succ n ih =>
    have s1 := slope_bd h n
    have s2 := slope_bd h (-((n : Int) + 1))
    rw [show -((n : Int) + 1) + 1 = -(n : Int) by omega] at s2
    rw [show ((n + 1 : Nat) : Int) = (n : Int) + 1 by omega]
    omega
theorem val_all {Z : Nat → Int} (h : zInv Z) {x : Int} (hx : -2000000000 ≤ x ∧ x ≤ 2000000000) : -100000000000000 ≤ zVal Z x ∧ zVal Z x ≤ 100000000000000 := by
  have v0 := h.val2 (x := 0) (by omega) (by omega)
  have b := val_bd h x.natAbs
  rcases Int.le_total 0 x with q | q
  · rw [show (x.natAbs : Int) = x by omega] at b; omega
  · rw [show (x.natAbs : Int) = -x by omega, Int.neg_neg] at b; omega
/-- how far off one may be for so much -/
def zOf (Z : Nat → Int) (s0 sg b r : Int) : Prop := ((s0 = 100000000 ∨ s0 = -100000000) ∧ r = -10000000) ∨ ((-5000 ≤ s0 ∧ s0 ≤ 5000) ∧ ∃ D, (0 ≤ D ∧ D ≤ 1000000) ∧ r = s0 + sg * D ∧ zVal Z (s0 + sg * D) ≤ zLeast Z + b ∧ zLeast Z + b < zVal Z (s0 + sg * (D + 1)))
/-- beyond the flat each place costs more -/
theorem off_up {Z : Nat → Int} (h : zVee Z) {w : Int} (hw : w = 0 ∨ w = 1) {s0 sg : Int} (e0 : s0 = if w = 0 then zTurn Z 0 else zTurn Z 1) (e1 : sg = if w = 0 then -1 else 1) (hs : -5000 ≤ s0 ∧ s0 ≤ 5000) : zVal Z (s0 + sg * 0) = zLeast Z ∧ ∀ d : Int, 0 ≤ d → d ≤ 10000000 → zVal Z (s0 + sg * d) + 1 ≤ zVal Z (s0 + sg * (d + 1)) := by
  rcases hw with e | e <;> subst e
  · rw [if_pos rfl] at e0 e1
    subst e1
    constructor
    · rcases zTurn_spec Z 0 with ⟨a, b⟩ | ⟨a, b⟩ | ⟨j, a1, a2, a3, a4⟩
      · omega
      · omega
      · rw [show s0 + -1 * 0 = (j : Int) - 5000 by omega]
        exact least_at h (by omega) a4
    · intro d h1 h2
      have q : ¬ (0 ≤ zSlp Z (s0 - d - 1)) := fun z => absurd ((turn_iff h.1 0 (s0 - d - 1) (by omega) (by omega)).mpr z) (by omega)
      have q := Int.not_le.mp q
      unfold zSlp at q
      rw [show s0 - d - 1 + 1 = s0 + -1 * d by omega] at q
      rw [show s0 + -1 * (d + 1) = s0 - d - 1 by omega]
      omega
  · rw [if_neg (by decide)] at e0 e1
    subst e1
    constructor
    · rcases zTurn_spec Z 1 with ⟨a, b⟩ | ⟨a, b⟩ | ⟨j, a1, a2, a3, a4⟩
      · omega
      · omega
      · rw [show s0 + 1 * 0 = (j : Int) - 5000 by omega]
        exact least_at h (by omega) (by omega)
    · intro d h1 h2
      have q := (turn_iff h.1 1 (s0 + d) (by omega) (by omega)).mp (by omega)
      unfold zSlp at q
      rw [show s0 + 1 * d = s0 + d by omega, show s0 + 1 * (d + 1) = s0 + d + 1 by omega]
      omega
theorem off_far {f : Int → Int} (hf : ∀ d : Int, 0 ≤ d → d ≤ 10000000 → f d + 1 ≤ f (d + 1)) : ∀ (n : Nat) (a : Int), 0 ≤ a → a + n ≤ 10000000 → f a + n ≤ f (a + n) := by
  intro n
  induction n with
  | zero => intro a _ _; simp
  | succ n ih =>
    intro a h1 h2
    have := ih a h1 (by omega)
    have := hf (a + n) (by omega) (by omega)
    rw [show a + ((n + 1 : Nat) : Int) = a + n + 1 by omega]
    omega
theorem iI_div2 {a : Int} (ha : 0 ≤ a ∧ a ≤ 2000000000) : iI a / (2 : Int32) = iI (a / 2) := by
  apply Int32.toInt_inj.mp
  rw [Int32.toInt_div, iI_toInt (by omega) (by omega), show (2 : Int32).toInt = 2 from rfl, iI_toInt (by omega) (by omega), Int.tdiv_eq_ediv_of_nonneg (by omega), Int.bmod_eq_of_le (by omega) (by omega)]
section
variable {ρ : Nat → Nat} {h : hS} {Q : Nat → Nat} {F : FT} {ks : List Nat}
theorem off_loop (N : Nat) (hN : 20000 ≤ N) {l c : Nat} {Z : Nat → Int} (z : CZ ρ l h c Z) {s0 sg b : Int} (hs : -5000 ≤ s0 ∧ s0 ≤ 5000) (hsg : sg = -1 ∨ sg = 1) (hb : 0 ≤ b ∧ b ≤ 1000000) : ∀ (m : Nat) (lo hi : Int) (fuel : Nat), m ≤ 32 → (0 ≤ lo ∧ lo ≤ hi ∧ hi ≤ b) → hi - lo < 2 ^ m → zVal Z (s0 + sg * lo) ≤ zLeast Z + b → zLeast Z + b < zVal Z (s0 + sg * (hi + 1)) → ∃ D, (0 ≤ D ∧ D ≤ b) ∧ zVal Z (s0 + sg * D) ≤ zLeast Z + b ∧ zLeast Z + b < zVal Z (s0 + sg * (D + 1)) ∧ f_K_farthestWithin_9 N (m + (fuel + 1)) h (some c) (iI s0) (iI sg) (iI b) (iI lo) (iI hi) (iI (32 - m)) = some (iI D, h) := by
  intro m
  induction m with
  | zero =>
    intro lo hi fuel _ hl hd h1 h2
    have he : hi = lo := by simp at hd; omega
    subst he
    refine ⟨hi, by omega, h1, h2, ?_⟩
    rw [Nat.zero_add]
    unfold f_K_farthestWithin_9 f_K_farthestWithin_74
    rw [if_pos (show (32 : Int32) ≤ iI (32 - (0 : Nat)) by decide)]
  | succ m ih =>
    intro lo hi fuel hm hl hd h1 h2
    rw [show m + 1 + (fuel + 1) = (m + (fuel + 1)) + 1 by omega]
    generalize hR : f_K_farthestWithin_9 N (m + (fuel + 1)) = R
    by_cases e : hi ≤ lo
    · have he : hi = lo := by omega
      subst he
      refine ⟨hi, by omega, h1, h2, ?_⟩
      unfold f_K_farthestWithin_9 f_K_farthestWithin_74
      rw [if_neg (show ¬ (32 : Int32) ≤ iI (32 - ((m + 1 : Nat) : Int)) from fun q => absurd ((iI_le (a := 32) (by omega) (by omega)).mp q) (by omega)), if_pos ((iI_le (by omega) (by omega)).mpr (Int.le_refl _))]
    · obtain ⟨md, hmd⟩ : ∃ md, md = (lo + hi + 1) / 2 := ⟨_, rfl⟩
      have hmd1 : lo < md ∧ md ≤ hi := by omega
      have hp : (2 : Int) ^ (m + 1) = 2 * 2 ^ m := by rw [Int.pow_succ]; omega
      rw [hp] at hd
      have hx : -2000000 ≤ s0 + sg * md ∧ s0 + sg * md ≤ 2000000 := by rcases hsg with q | q <;> subst q <;> omega
      have vb := val_all z.2 (x := s0 + sg * md) (by omega)
      have lb : 0 ≤ zLeast Z ∧ zLeast Z ≤ 1000000000000 := by have := z.1.ok; have := z.2.2.2; exact ⟨this, z.1.ok.2.2.2.2⟩
      have st : f_K_farthestWithin_9 N (m + (fuel + 1) + 1) h (some c) (iI s0) (iI sg) (iI b) (iI lo) (iI hi) (iI (32 - ((m + 1 : Nat) : Int))) = if zVal Z (s0 + sg * md) ≤ zLeast Z + b then R h (some c) (iI s0) (iI sg) (iI b) (iI md) (iI hi) (iI (32 - m)) else R h (some c) (iI s0) (iI sg) (iI b) (iI lo) (iI (md - 1)) (iI (32 - m)) := by
        have ed : (iI lo + iI hi + (1 : Int32)) / (2 : Int32) = iI md := by
          rw [show (1 : Int32) = iI 1 from rfl, show (2 : Int32) = iI 2 from rfl, iI_add, iI_add, show (iI 2 : Int32) = 2 from rfl, iI_div2 (by omega), hmd]
        unfold f_K_farthestWithin_9 f_K_farthestWithin_68
        rw [hR, if_neg (show ¬ (32 : Int32) ≤ iI (32 - ((m + 1 : Nat) : Int)) from fun q => absurd ((iI_le (a := 32) (by omega) (by omega)).mp q) (by omega)), if_neg (fun q => e ((iI_le (by omega) (by omega)).mp q)), dv_ok (by decide), ed, bn_i, iI_mul, iI_add, cv_k z.1.k, cval_is N (by omega) z.1 (by omega), cl_s, kv_val z.2.1, gJ_k z.1.k, z.1.f.2.2.2, lI_sub, iI_l (by omega) (by omega)]
        have en : iI (32 - ((m + 1 : Nat) : Int)) + (1 : Int32) = iI (32 - m) := by
          rw [show (1 : Int32) = iI 1 from rfl, iI_add]; congr 1; omega
        by_cases q : zVal Z (s0 + sg * md) ≤ zLeast Z + b
        · rw [if_neg (show ¬ (0 : Int32) < lg_cmp (lI (zVal Z (s0 + sg * md) - zLeast Z)) (lI b) from fun z => absurd ((lg_gt0 (by omega) (by omega)).mp z) (by omega)), if_pos q, en, bn_i]
        · rw [if_pos (show (0 : Int32) < lg_cmp (lI (zVal Z (s0 + sg * md) - zLeast Z)) (lI b) from (lg_gt0 (by omega) (by omega)).mpr (by omega)), if_neg q, en, show (1 : Int32) = iI 1 from rfl, iI_sub, bn_i, bn_i]
      rw [st]
      by_cases q : zVal Z (s0 + sg * md) ≤ zLeast Z + b
      · rw [if_pos q]
        obtain ⟨D, d1, d2, d3, d4⟩ := ih md hi fuel (by omega) (by omega) (by omega) q h2
        rw [hR] at d4
        exact ⟨D, d1, d2, d3, d4⟩
      · rw [if_neg q]
        obtain ⟨D, d1, d2, d3, d4⟩ := ih lo (md - 1) fuel (by omega) (by omega) (by omega) h1 (by rw [show md - 1 + 1 = md by omega]; omega)
        rw [hR] at d4
        exact ⟨D, d1, d2, d3, d4⟩
theorem off_73 (N : Nat) (hN : 20000 ≤ N) (K : KS ρ h Q F ks) {c : Nat} (hc : c < 4) {w b s0 sg : Int} (hw : w = 0 ∨ w = 1) (e0 : s0 = if w = 0 then zTurn (zC F.1.1 c) 0 else zTurn (zC F.1.1 c) 1) (e1 : sg = if w = 0 then -1 else 1) (hb : 0 ≤ b ∧ b ≤ 1000000) {r : Int} (hr : zOf (zC F.1.1 c) s0 sg b r) : KE ρ h Q F ks (iI r) 0 (f_K_off_73 N h (iI b) (some (Q (20 + c))) (iI (ft s0)) (iI sg)) := by
  have z := K.2.2.1 c hc
  unfold f_K_off_73
  rcases hr with ⟨h1, h2⟩ | ⟨h1, D, h2, h3, h4, h5⟩
  · rw [far_y N h h1, cl_s, if_neg (by decide), h2]
    exact KE.ok K rfl
  · rw [far_n N h h1, cl_s, if_pos rfl]
    have e : ft s0 = s0 := by unfold ft; rw [if_neg (by omega), if_neg (by omega)]
    have hsg : sg = -1 ∨ sg = 1 := by rw [e1]; split <;> omega
    obtain ⟨u0, u1⟩ := off_up z.2.1 hw e0 e1 h1
    have u2 := off_far (f := fun d => zVal (zC F.1.1 c) (s0 + sg * d)) u1
    obtain ⟨fuel, hfu⟩ : ∃ fuel, N = 32 + (fuel + 1) := ⟨N - 33, by omega⟩
    have hb1 := u2 (b + 1).toNat 0 (by omega) (by omega)
    rw [show (0 : Int) + ((b + 1).toNat : Int) = b + 1 by omega] at hb1
    obtain ⟨D', d1, d2, d3, d4⟩ := off_loop N hN z h1 hsg hb 32 0 b fuel (by omega) (by omega) (by omega) (by omega) (by omega)
    rw [← hfu] at d4
    have hDD : D' = D := by
      rcases Int.lt_trichotomy D D' with q | q | q
      · have := u2 (D' - (D + 1)).toNat (D + 1) (by omega) (by omega)
        rw [show D + 1 + ((D' - (D + 1)).toNat : Int) = D' by omega] at this
        omega
      · exact q.symm
      · have := u2 (D - (D' + 1)).toNat (D' + 1) (by omega) (by omega)
        rw [show D' + 1 + ((D - (D' + 1)).toNat : Int) = D by omega] at this
        omega
    subst hDD
    unfold f_K_farthestWithin
    rw [e, show (0 : Int32) = iI 0 from rfl, show iI 0 = iI (32 - (32 : Nat)) from rfl]
    rw [show f_K_farthestWithin_9 N N h (some (Q (20 + c))) (iI s0) (iI sg) (iI b) (iI (32 - (32 : Nat))) (iI b) (iI (32 - (32 : Nat))) = some (iI D', h) from d4, cl_s, iI_mul, iI_add, h3]
    exact KE.ok K rfl
theorem off_K (N : Nat) (hN : 20000 ≤ N) (K : KS ρ h Q F ks) {c b w : Int} (hc : i32 c) (hbi : i32 b) (hwi : i32 w) {r : Int} (hr : ((0 ≤ c ∧ c ≤ 3) ∧ (0 ≤ w ∧ w ≤ 1)) ∧ (0 ≤ b ∧ b ≤ 1000000) → zOf (zC F.1.1 c.toNat) (if w = 0 then zTurn (zC F.1.1 c.toNat) 0 else zTurn (zC F.1.1 c.toNat) 1) (if w = 0 then -1 else 1) b r) : KE ρ h Q F ks (if ((0 ≤ c ∧ c ≤ 3) ∧ (0 ≤ w ∧ w ≤ 1)) ∧ (0 ≤ b ∧ b ≤ 1000000) then iI r else 0) (if (0 ≤ c ∧ c ≤ 3) ∧ (0 ≤ w ∧ w ≤ 1) then (if 0 ≤ b ∧ b ≤ 1000000 then 0 else 2) else 1) (f_K_off N h (Q 0) (iI c) (iI b) (iI w)) := by
  unfold i32 at hbi hwi
  unfold f_K_off f_K_off_5 f_K_off_16 f_K_off_21
  by_cases h1 : 0 ≤ c ∧ c ≤ 3
  · have z := K.cz h1
    rw [cvT_k K.x.1, curve_y N K h1, clT_l]
    have low := clow_is N (by omega) z.1 (s := 0) (by omega)
    have high := chigh_is N (by omega) z.1 (s := 0) (by omega)
    rw [cUnit_turn z.2.1.1 0] at low
    rw [show -zC F.1.1 c.toNat 0 + 0 + 1 = -zC F.1.1 c.toNat 0 + 1 by omega, cUnit_turn z.2.1.1 1] at high
    have fin : (0 ≤ w ∧ w ≤ 1) → KE ρ h Q F ks (if ((0 ≤ c ∧ c ≤ 3) ∧ (0 ≤ w ∧ w ≤ 1)) ∧ (0 ≤ b ∧ b ≤ 1000000) then iI r else 0) (if (0 ≤ c ∧ c ≤ 3) ∧ (0 ≤ w ∧ w ≤ 1) then (if 0 ≤ b ∧ b ≤ 1000000 then 0 else 2) else 1) (f_K_off_24 N h (iI b) (iI w) (some (Q (20 + c.toNat)))) := by
      intro h3
      rw [if_pos (show (0 ≤ c ∧ c ≤ 3) ∧ (0 ≤ w ∧ w ≤ 1) from ⟨h1, h3⟩)]
      unfold f_K_off_24 f_K_off_39 f_K_off_40
      by_cases b1 : 0 ≤ b ∧ b ≤ 1000000
      · have hr2 := hr ⟨⟨h1, h3⟩, b1⟩
        rw [if_pos b1, if_pos (show ((0 ≤ c ∧ c ≤ 3) ∧ (0 ≤ w ∧ w ≤ 1)) ∧ (0 ≤ b ∧ b ≤ 1000000) from ⟨⟨h1, h3⟩, b1⟩), if_neg (show ¬ iI b < (0 : Int32) from fun q => absurd ((iI_lt (b := 0) hbi (by omega)).mp q) (by omega)), if_neg (show ¬ (1000000 : Int32) < iI b from fun q => absurd ((iI_lt (a := 1000000) (by omega) hbi).mp q) (by omega)), fit_1, clT_l]
        unfold f_K_off_43 f_K_off_62
        have g := off_73 N hN K (n4 h1).1 (w := w) (show w = 0 ∨ w = 1 by omega) rfl rfl b1 hr2
        by_cases w0 : w = 0
        · rw [if_pos w0, if_pos w0] at g
          rw [if_pos (show iI w = (0 : Int32) by rw [w0]; rfl), cv_k z.1.k, show (0 : Int32) = iI 0 from rfl, low, cl_s, if_pos (show iI w = iI 0 by rw [w0]), show (-1 : Int32) = iI (-1) by decide]
          exact g
        · rw [if_neg w0, if_neg w0] at g
          rw [if_neg (show ¬ iI w = (0 : Int32) from fun q => w0 ((iI_eq (b := 0) hwi (by omega)).mp q)), cv_k z.1.k, show (0 : Int32) = iI 0 from rfl, high, cl_s, if_neg (show ¬ iI w = iI 0 from fun q => w0 ((iI_eq (b := 0) hwi (by omega)).mp q)), show (1 : Int32) = iI 1 from rfl]
          exact g
      · rw [if_neg b1, if_neg (fun q => b1 q.2)]
        by_cases b0 : b < 0
        · rw [if_pos (show iI b < (0 : Int32) from (iI_lt (b := 0) hbi (by omega)).mpr b0), fit_0, clT_r]
          exact KE.t2 K rfl
        · rw [if_neg (show ¬ iI b < (0 : Int32) from fun q => b0 ((iI_lt (b := 0) hbi (by omega)).mp q)), if_pos (show (1000000 : Int32) < iI b from (iI_lt (a := 1000000) (by omega) hbi).mpr (by omega)), fit_0, clT_r]
          exact KE.t2 K rfl
    by_cases w0 : w = 0
    · rw [if_pos (show iI w = (0 : Int32) by rw [w0]; rfl), such_1, clT_l]
      exact fin (by omega)
    · rw [if_neg (show ¬ iI w = (0 : Int32) from fun q => w0 ((iI_eq (b := 0) hwi (by omega)).mp q))]
      by_cases w1 : w = 1
      · rw [if_pos (show iI w = (1 : Int32) by rw [w1]; rfl), such_1, clT_l]
        exact fin (by omega)
      · rw [if_neg (show ¬ iI w = (1 : Int32) from fun q => w1 ((iI_eq (b := 1) hwi (by omega)).mp q)), such_0, clT_r, if_neg (fun q => by omega), if_neg (fun q => by omega)]
        exact KE.t1 K rfl
  · rw [cvT_k K.x.1, curve_n N h _ hc h1, clT_r, if_neg (fun q => h1 q.1.1), if_neg (fun q => h1 q.1)]
    exact KE.t1 K rfl
end
