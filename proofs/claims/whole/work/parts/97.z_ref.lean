/-! THE REFERENCE'S READER: words, numbers, signs -/
section
variable {ρ : Nat → Nat} {A : Nat → Nat} {m : Nat} {h g u : hS} {F F' : FT} {B : Nat → Int} {n : Nat} {U : Nat → Int32} {β : Type}
theorem wrong_u (N : Nat) (M : MO A m h) (h27 : U 27 = 0) (k : Int32) : f_M_wrong N (s_w h m U) m k = some ((), s_w h m (upd (upd U 27 k) 28 (U 25))) := by
  unfold f_M_wrong
  rw [gI_u M, h27, if_pos rfl, pI_u M, gI_u M, upd_o (by decide), pI_u M]
theorem wrong_f (N : Nat) (M : MO A m h) (h27 : U 27 ≠ 0) (k : Int32) : f_M_wrong N (s_w h m U) m k = some ((), s_w h m U) := by
  unfold f_M_wrong
  rw [gI_u M, if_neg h27]
theorem isMarked_f (N : Nat) (M : MO A m h) (h27 : U 27 ≠ 0) (c : Int32) : f_M_isMarked N (s_w h m U) m c = some (0, s_w h m U) := by
  unfold f_M_isMarked f_M_isMarked_32 f_M_isMarked_33
  rw [gI_u M, if_neg h27, bz_0]
theorem isMarked_u (N : Nat) (T : TQ A m h B n) {e : Nat} (he : e ≤ n) (t : tokR B U (zTok B n e)) (h27 : U 27 = 0) {c : Int} (hc : 0 ≤ c ∧ c ≤ 255) : f_M_isMarked N (s_w h m U) m (iI c) = some (if (zTok B n e).1 = 3 ∧ B (zTok B n e).2.1 = c then 1 else 0, s_w h m U) := by
  have h6 := T.2.1
  have hr := zTok_rng (B := B) he
  have m17 : (17, 50, 600) ∈ mrows := by decide
  obtain ⟨t1, t2, t3, t4, t5⟩ := t
  unfold f_M_isMarked f_M_isMarked_32 f_M_isMarked_33
  rw [gI_u T.1, h27, if_pos rfl, gI_u T.1, t2]
  by_cases q : (zTok B n e).1 = 3
  · have hl := (hr.2.2 (by omega)).2.1
    have hB := T.2.2.2 _ hl
    rw [if_pos (show iI (zTok B n e).1 = (3 : Int32) by rw [q]; rfl), gR_at (T.1.sw m U) m17, gI_u T.1, t3, aI_iI (z := ((zTok B n e).2.1 : Int)) ((T.1.sw m U).ro (i := 17) (n := 600) m17) (by omega) (by omega) (by omega), Int.toNat_natCast, h_i_sw, if_neg (T.1.ne m17 (by decide)), T.2.2.1 _ hl]
    by_cases q2 : B (zTok B n e).2.1 = c
    · rw [if_pos (by rw [q2]), bz_1, if_pos ⟨q, q2⟩]
    · rw [if_neg (fun z => q2 ((iI_eq (by omega) (by omega)).mp z)), bz_0, if_neg (fun z => q2 z.2)]
  · rw [if_neg (show ¬ iI (zTok B n e).1 = (3 : Int32) from fun z => q ((iI_eq (b := 3) (by omega) (by omega)).mp z)), bz_0, if_neg (fun z => q z.1)]
/-- a number is read, or a fault told -/
def NumS (m : Nat) (h : hS) (B : Nat → Int) (n e : Nat) (U : Nat → Int32) (fault w : Int) (place : Nat) (nx : Nat) (r : Option (Int32 × hS)) : Prop := (fault = 0 → ∃ V, r = some (iI w, s_w h m V) ∧ (∀ k, k ∉ tkF → V k = U k) ∧ tokR B V (zTok B n nx)) ∧ (fault ≠ 0 → ∃ V a, r = some (a, s_w h m V) ∧ (∀ k, k ∉ tkF → k ≠ 27 → k ≠ 28 → V k = U k) ∧ V 27 = iI fault ∧ V 28 = iI place)
theorem zNt_f (B : Nat → Int) (n e : Nat) : zNt B n false e = zTok B n e := by
  unfold zNt
  rw [if_neg (show ¬ zBe B n false e = true from fun z => Bool.noConfusion (show false = true from z))]
theorem numberNow_u (N : Nat) (T : TQ A m h B n) {e : Nat} (he : e ≤ n) (t : tokR B U (zTok B n e)) (h27 : U 27 = 0) {hi : Int} (hh : 0 ≤ hi ∧ hi ≤ 999) : (zNf B n false hi e = 0 → f_M_numberNow N (s_w h m U) m (iI hi) = some (iI (zNv B (zTok B n e)), s_w h m U)) ∧ (zNf B n false hi e ≠ 0 → f_M_numberNow N (s_w h m U) m (iI hi) = some (0, s_w h m (upd (upd U 27 (iI (zNf B n false hi e))) 28 (iI (zTok B n e).2.1)))) := by
  have h6 := T.2.1
  have hr := zTok_rng (B := B) he
  have hn := zNt_rng (B := B) false he
  rw [zNt_f] at hn
  obtain ⟨t1, t2, t3, t4, t5⟩ := t
  unfold zNf
  rw [zNt_f]
  have flt : ∀ k : Int, k = 1 ∨ k = 2 → cv (s_w h m U) (some m) 0 (fun a => f_M_wrong N (s_w h m U) a (iI k)) (fun _ h7 => f_M_numberNow_51 N h7 m) = some (0, s_w h m (upd (upd U 27 (iI k)) 28 (iI (zTok B n e).2.1))) := fun k hk => by
    rw [cv_u T.1, wrong_u N T.1 h27, cl_s, t3]
    unfold f_M_numberNow_51 f_M_numberNow_66
    rw [gI_u T.1, upd_o (by decide), upd_a, if_neg (by rcases hk with z | z <;> rw [z] <;> decide)]
  unfold f_M_numberNow
  rw [gI_u T.1, h27, if_pos rfl, gI_u T.1, t2]
  by_cases q : (zTok B n e).1 = 2
  · rw [if_pos (show iI (zTok B n e).1 = (2 : Int32) by rw [q]; rfl), if_pos q, gI_u T.1, t4, gI_u T.1, t3, iI_sub]
    have hv := zNv_rng hn.2.1 (hn.2.2.2.2.2 q)
    by_cases q3 : (zTok B n e).2.2 - (zTok B n e).2.1 ≤ 3
    · rw [if_neg (show ¬ (3 : Int32) < iI (((zTok B n e).2.2 : Int) - ((zTok B n e).2.1 : Int)) from fun z => by have := (iI_lt (a := 3) (by omega) (by omega)).mp z; omega), gI_u T.1, t5 q q3]
      by_cases q4 : zNv B (zTok B n e) ≤ hi
      · rw [if_pos q4, if_pos ((iI_le (by omega) (by omega)).mpr q4)]
        refine ⟨fun _ => ?_, fun z => absurd rfl z⟩
        unfold f_M_numberNow_51 f_M_numberNow_66
        rw [gI_u T.1, h27, if_pos rfl, gI_u T.1, t5 q q3]
      · rw [if_neg q4, if_neg (fun z => q4 ((iI_le (by omega) (by omega)).mp z))]
        exact ⟨fun z => absurd z (by decide), fun _ => flt 2 (Or.inr rfl)⟩
    · have big : zNv B (zTok B n e) = 1000000000 := by unfold zNv; rw [if_neg q3]
      rw [if_pos (show (3 : Int32) < iI (((zTok B n e).2.2 : Int) - ((zTok B n e).2.1 : Int)) from (iI_lt (a := 3) (by omega) (by omega)).mpr (by omega)), if_neg (show ¬ zNv B (zTok B n e) ≤ hi by omega)]
      exact ⟨fun z => absurd z (by decide), fun _ => flt 2 (Or.inr rfl)⟩
  · rw [if_neg (show ¬ iI (zTok B n e).1 = (2 : Int32) from fun z => q ((iI_eq (b := 2) (by omega) (by omega)).mp z)), if_neg q]
    exact ⟨fun z => absurd z (by decide), fun _ => flt 1 (Or.inl rfl)⟩
theorem numberNow_f (N : Nat) (M : MO A m h) (h27 : U 27 ≠ 0) (x : Int32) : f_M_numberNow N (s_w h m U) m x = some (0, s_w h m U) := by
  unfold f_M_numberNow
  rw [gI_u M, if_neg h27]
theorem readNumber_f (N : Nat) (M : MO A m h) (h27 : U 27 ≠ 0) (x : Int32) : f_M_readNumber N (s_w h m U) m x = some (0, s_w h m U) := by
  unfold f_M_readNumber f_M_readNumber_17
  rw [cv_u M, numberNow_f N M h27, cl_s, gI_u M, if_neg h27]
theorem readNumber_u (N : Nat) (hN : 1000 ≤ N) (T : TQ A m h B n) {e : Nat} (he : e ≤ n) (t : tokR B U (zTok B n e)) (h27 : U 27 = 0) (h22 : U 22 = iI n) {hi : Int} (hh : 0 ≤ hi ∧ hi ≤ 999) : NumS m h B n e U (zNf B n false hi e) (zNw B n false hi e) (zNt B n false e).2.1 (zNt B n false e).2.2 (f_M_readNumber N (s_w h m U) m (iI hi)) := by
  have hr := zTok_rng (B := B) he
  have fr := zNf_rng B n false hi e
  obtain ⟨p1, p2⟩ := numberNow_u N T he t h27 hh
  rw [zNt_f]
  unfold f_M_readNumber f_M_readNumber_17
  constructor
  · intro q
    have ew : zNw B n false hi e = zNv B (zTok B n e) := by
      unfold zNw
      rw [if_pos q, if_neg (show ¬ zBe B n false e = true from fun z => Bool.noConfusion (show false = true from z)), zNt_f]
    obtain ⟨V, v1, v2, v3⟩ := stepOn_u N hN T hr.1.2.2 U t.1 h22
    refine ⟨V, ?_, v2, v3⟩
    rw [cv_u T.1, p1 q, cl_s, gI_u T.1, h27, if_pos rfl, cv_u T.1, v1, cl_s, ew]
  · intro q
    refine ⟨upd (upd U 27 (iI (zNf B n false hi e))) 28 (iI (zTok B n e).2.1), 0, ?_, fun k k1 k2 k3 => ?_, ?_, upd_a _ _ _⟩
    · rw [cv_u T.1, p2 q, cl_s, gI_u T.1, upd_o (by decide), upd_a, if_neg (show ¬ iI (zNf B n false hi e) = (0 : Int32) from fun z => q ((iI_eq (b := 0) (by omega) (by omega)).mp z))]
    · rw [upd_o k3, upd_o k2]
    · rw [upd_o (by decide), upd_a]
theorem readPlace_u (N : Nat) (hN : 1000 ≤ N) (T : TQ A m h B n) {e : Nat} (he : e ≤ n) (t : tokR B U (zTok B n e)) (h27 : U 27 = 0) (h22 : U 22 = iI n) : NumS m h B n e U (zNf B n true 500 e) (zNw B n true 500 e) (zNt B n true e).2.1 (zNt B n true e).2.2 (f_M_readPlace N (s_w h m U) m) := by
  have hr := zTok_rng (B := B) he
  have mk := isMarked_u N T he t h27 (c := 45) (by omega)
  unfold f_M_readPlace
  rw [cv_u T.1, show (45 : Int32) = iI 45 from rfl, mk, cl_s]
  by_cases q : (zTok B n e).1 = 3 ∧ B (zTok B n e).2.1 = 45
  · have eb : zBe B n true e = true := by unfold zBe; rw [Bool.true_and]; exact decide_eq_true q
    have ent : zNt B n true e = zTok B n (zTok B n e).2.2 := by unfold zNt; rw [if_pos eb]
    have enf : zNf B n true 500 e = zNf B n false 500 (zTok B n e).2.2 := by unfold zNf; rw [ent, zNt_f]
    obtain ⟨V, v1, v2, v3⟩ := stepOn_u N hN T hr.1.2.2 U t.1 h22
    obtain ⟨p1, p2⟩ := readNumber_u N hN T hr.1.2.2 v3 (by rw [v2 27 (by decide), h27]) (by rw [v2 22 (by decide), h22]) (hi := 500) (by omega)
    rw [zNt_f] at p1 p2
    rw [if_pos q, if_neg (by decide), cv_u T.1, v1, cl_s, ent, enf]
    unfold f_M_readPlace_15 f_M_readPlace_33
    constructor
    · intro z
      obtain ⟨W, w1, w2, w3⟩ := p1 z
      refine ⟨W, ?_, fun k hk => by rw [w2 k hk, v2 k hk], w3⟩
      have ew : zNw B n true 500 e = -zNw B n false 500 (zTok B n e).2.2 := by
        unfold zNw
        rw [enf, if_pos z, if_pos z, if_pos eb, ent, if_neg (show ¬ zBe B n false (zTok B n e).2.2 = true from fun z => Bool.noConfusion (show false = true from z)), zNt_f]
      rw [cv_u T.1, show (500 : Int32) = iI 500 from rfl, w1, cl_s, if_neg (by decide), ew, iI_neg]
    · intro z
      obtain ⟨W, a, w1, w2, w3, w4⟩ := p2 z
      refine ⟨W, -a, ?_, fun k hk k1 k2 => by rw [w2 k hk k1 k2, v2 k hk], w3, w4⟩
      rw [cv_u T.1, show (500 : Int32) = iI 500 from rfl, w1, cl_s, if_neg (by decide)]
  · have eb : ¬ zBe B n true e = true := by unfold zBe; rw [Bool.true_and]; exact fun z => q (of_decide_eq_true z)
    have ent : zNt B n true e = zNt B n false e := by rw [zNt_f]; unfold zNt; rw [if_neg eb]
    have enf : zNf B n true 500 e = zNf B n false 500 e := by unfold zNf; rw [ent]
    have ew : zNw B n true 500 e = zNw B n false 500 e := by
      unfold zNw
      rw [enf, if_neg eb, if_neg (show ¬ zBe B n false e = true from fun z => Bool.noConfusion (show false = true from z)), ent]
    obtain ⟨p1, p2⟩ := readNumber_u N hN T he t h27 h22 (hi := 500) (by omega)
    rw [if_neg q, if_pos rfl, ent, enf, ew]
    unfold f_M_readPlace_15 f_M_readPlace_33
    constructor
    · intro z
      obtain ⟨W, w1, w2, w3⟩ := p1 z
      refine ⟨W, ?_, w2, w3⟩
      rw [cv_u T.1, show (500 : Int32) = iI 500 from rfl, w1, cl_s, if_pos rfl]
    · intro z
      obtain ⟨W, a, w1, w2, w3, w4⟩ := p2 z
      refine ⟨W, a, ?_, w2, w3, w4⟩
      rw [cv_u T.1, show (500 : Int32) = iI 500 from rfl, w1, cl_s, if_pos rfl]
theorem readCost_u (N : Nat) (hN : 1000 ≤ N) (T : TQ A m h B n) {e : Nat} (he : e ≤ n) (t : tokR B U (zTok B n e)) (h27 : U 27 = 0) (h22 : U 22 = iI n) {cost : Int} (hc : 0 ≤ cost ∧ cost ≤ 3) : NumS m h B n e U (if zNf B n false 3 e = 0 then (if zNw B n false 3 e = cost then 3 else 0) else zNf B n false 3 e) (zNw B n false 3 e) (zNt B n false e).2.1 (zNt B n false e).2.2 (f_M_readCost N (s_w h m U) m (iI cost)) := by
  have hr := zTok_rng (B := B) he
  have hn := zNt_rng (B := B) false he
  have fr := zNf_rng B n false 3 e
  obtain ⟨p1, p2⟩ := numberNow_u N T he t h27 (hi := 3) (by omega)
  rw [zNt_f] at hn ⊢
  unfold f_M_readCost f_M_readCost_23 f_M_readCost_34
  rw [cv_u T.1, show (3 : Int32) = iI 3 from rfl]
  by_cases q : zNf B n false 3 e = 0
  · have ew : zNw B n false 3 e = zNv B (zTok B n e) := by
      unfold zNw
      rw [if_pos q, if_neg (show ¬ zBe B n false e = true from fun z => Bool.noConfusion (show false = true from z)), zNt_f]
    have rw_ := zNw_rng he q
    rw [ew] at rw_
    rw [if_pos q, p1 q, cl_s, gI_u T.1, h27, if_pos rfl, ew]
    by_cases z : zNv B (zTok B n e) = cost
    · rw [if_pos z, if_pos (by rw [z])]
      refine ⟨fun y => absurd y (by decide), fun _ => ⟨upd (upd U 27 (iI 3)) 28 (U 25), iI (zNv B (zTok B n e)), ?_, fun k k1 k2 k3 => ?_, ?_, ?_⟩⟩
      · rw [cv_u T.1, wrong_u N T.1 h27, cl_s, gI_u T.1, upd_o (by decide), upd_a, if_neg (by decide)]
      · rw [upd_o k3, upd_o k2]
      · rw [upd_o (by decide), upd_a]
      · rw [upd_a, t.2.2.1]
    · rw [if_neg z, if_neg (fun y => z ((iI_eq (by omega) (by omega)).mp y))]
      refine ⟨fun _ => ?_, fun y => absurd rfl y⟩
      obtain ⟨V, v1, v2, v3⟩ := stepOn_u N hN T hr.1.2.2 U t.1 h22
      refine ⟨V, ?_, v2, v3⟩
      rw [gI_u T.1, h27, if_pos rfl, cv_u T.1, v1, cl_s]
  · have q' : ¬ iI (zNf B n false 3 e) = (0 : Int32) := fun z => q ((iI_eq (b := 0) (by omega) (by omega)).mp z)
    rw [if_neg q, p2 q, cl_s, gI_u T.1, upd_o (by decide), upd_a, if_neg q', gI_u T.1, upd_o (by decide), upd_a, if_neg q']
    refine ⟨fun y => absurd y q, fun _ => ⟨upd (upd U 27 (iI (zNf B n false 3 e))) 28 (iI (zTok B n e).2.1), 0, rfl, fun k k1 k2 k3 => ?_, ?_, upd_a _ _ _⟩⟩
    · rw [upd_o k3, upd_o k2]
    · rw [upd_o (by decide), upd_a]
/-- whether the token is this word -/
theorem is39 (N : Nat) (T : TQ A m h B n) {w : List Int} {r : Nat} (W : WD ρ (s_w h m U) (some r) w) (hw : ∀ e ∈ w, 0 ≤ e ∧ e ≤ 127) (hl : w.length ≤ 100) {a : Nat} (h25 : U 25 = iI a) (ha : a + w.length ≤ n) : ∀ (q j fuel : Nat), j + q = w.length → ((∀ i, j ≤ i → (hi : i < w.length) → w[i] = B (a + i)) → f_M_is_39 N (q + (fuel + 1)) (s_w h m U) m r (1 : Int32) (iI j) = some (1, s_w h m U)) ∧ (¬ (∀ i, j ≤ i → (hi : i < w.length) → w[i] = B (a + i)) → f_M_is_39 N (q + (fuel + 1)) (s_w h m U) m r (1 : Int32) (iI j) = some (0, s_w h m U)) := by
  have h6 := T.2.1
  have m17 : (17, 50, 600) ∈ mrows := by decide
  intro q
  induction q with
  | zero =>
    intro j fuel hq
    have all : ∀ i, j ≤ i → (hi : i < w.length) → w[i] = B (a + i) := fun i h1 h2 => by omega
    refine ⟨fun _ => ?_, fun z => absurd all z⟩
    rw [Nat.zero_add]
    unfold f_M_is_39 f_M_is_82
    rw [if_neg (by decide), W.len, if_pos ((iI_le (by omega) (by omega)).mpr (by omega)), bz_1]
  | succ q ih =>
    intro j fuel hq
    have hj : j < w.length := by omega
    have hB := T.2.2.2 (a + j) (by omega)
    have hwj := hw w[j] (List.getElem_mem hj)
    have e1 : iI (j : Int) + (1 : Int32) = iI ((j + 1 : Nat) : Int) := by rw [show (1 : Int32) = iI 1 from rfl, iI_add]; rfl
    have st : f_M_is_39 N (q + 1 + (fuel + 1)) (s_w h m U) m r (1 : Int32) (iI j) = if iI w[j] = iI (B (a + j)) then f_M_is_39 N (q + (fuel + 1)) (s_w h m U) m r (1 : Int32) (iI ((j + 1 : Nat) : Int)) else f_M_is_39 N (q + (fuel + 1)) (s_w h m U) m r (0 : Int32) (iI ((j + 1 : Nat) : Int)) := by
      rw [show q + 1 + (fuel + 1) = (q + (fuel + 1)) + 1 by omega]
      conv => lhs; unfold f_M_is_39
      unfold f_M_is_75
      rw [if_neg (by decide), W.len, if_neg (fun z => by have := (iI_le (by omega) (by omega)).mp z; omega), W.at N hw hl hj, gR_at (T.1.sw m U) m17, gI_u T.1, h25, iI_add, aI_iI (z := ((a : Int) + (j : Int))) ((T.1.sw m U).ro (i := 17) (n := 600) m17) (by omega) (by omega) (by omega), show ((a : Int) + (j : Int)).toNat = a + j by omega, h_i_sw, if_neg (T.1.ne m17 (by decide)), T.2.2.1 _ (by omega)]
      simp only [bn_i, e1]
    rw [st]
    obtain ⟨i1, i2⟩ := ih (j + 1) fuel (by omega)
    by_cases z : w[j] = B (a + j)
    · rw [if_pos (by rw [z])]
      refine ⟨fun al => i1 (fun i k1 k2 => al i (by omega) k2), fun na => i2 (fun al => na (fun i k1 k2 => ?_))⟩
      by_cases y : i = j
      · subst y; exact z
      · exact al i (by omega) k2
    · rw [if_neg (fun y => z ((iI_eq (by omega) (by omega)).mp y))]
      refine ⟨fun al => absurd (al j (Nat.le_refl _) hj) z, fun _ => ?_⟩
      rw [show q + (fuel + 1) = (q + fuel) + 1 by omega]
      unfold f_M_is_39 f_M_is_82
      rw [if_pos rfl, bz_0]
theorem is_u (N : Nat) (hN : 1000 ≤ N) (T : TQ A m h B n) {e : Nat} (he : e ≤ n) (t : tokR B U (zTok B n e)) (h27 : U 27 = 0) {w : List Int} {r : Nat} (W : WD ρ (s_w h m U) (some r) w) (hw : ∀ e ∈ w, 0 ≤ e ∧ e ≤ 127) (hl : w.length ≤ 100) : f_M_is N (s_w h m U) m r = some (if (zTok B n e).1 = 1 ∧ zBy B ((zTok B n e).2.2 - (zTok B n e).2.1) (zTok B n e).2.1 = w then 1 else 0, s_w h m U) := by
  have h6 := T.2.1
  have hr := zTok_rng (B := B) he
  obtain ⟨t1, t2, t3, t4, t5⟩ := t
  have no : f_M_is_35 N (s_w h m U) m r = some (0, s_w h m U) := by
    unfold f_M_is_35 f_M_is_36
    rw [show N = (N - 1) + 1 by omega]
    unfold f_M_is_39 f_M_is_82
    rw [if_pos rfl, bz_0]
  unfold f_M_is
  rw [gI_u T.1, h27, if_pos rfl, gI_u T.1, t2]
  by_cases q : (zTok B n e).1 = 1
  · rw [if_pos (show iI (zTok B n e).1 = (1 : Int32) by rw [q]; rfl), W.len, gI_u T.1, t4, gI_u T.1, t3, iI_sub]
    by_cases q2 : w.length = (zTok B n e).2.2 - (zTok B n e).2.1
    · rw [if_pos (show iI (w.length : Int) = iI (((zTok B n e).2.2 : Int) - ((zTok B n e).2.1 : Int)) by congr 1; omega)]
      obtain ⟨i1, i2⟩ := is39 N T W hw hl t3 (by omega) w.length 0 (N - w.length - 1) (by omega)
      rw [show w.length + (N - w.length - 1 + 1) = N by omega] at i1 i2
      unfold f_M_is_36
      have lz := zBy_len B ((zTok B n e).2.2 - (zTok B n e).2.1) (zTok B n e).2.1
      by_cases z : zBy B ((zTok B n e).2.2 - (zTok B n e).2.1) (zTok B n e).2.1 = w
      · rw [if_pos ⟨q, z⟩]
        refine i1 (fun i _ hi => ?_)
        have := zBy_at B ((zTok B n e).2.2 - (zTok B n e).2.1) (zTok B n e).2.1 i (by rw [lz]; omega)
        rw [← this]
        congr 1
        exact z.symm
      · rw [if_neg (fun y => z y.2)]
        refine i2 (fun al => z (List.ext_getElem (by rw [lz]; omega) (fun i k1 k2 => ?_)))
        rw [zBy_at, al i (Nat.zero_le _) k2]
    · rw [if_neg (show ¬ iI (w.length : Int) = iI (((zTok B n e).2.2 : Int) - ((zTok B n e).2.1 : Int)) from fun z => q2 (by have := (iI_eq (by omega) (by omega)).mp z; omega)), no, if_neg (fun z => q2 (by rw [← z.2, zBy_len]))]
  · rw [if_neg (show ¬ iI (zTok B n e).1 = (1 : Int32) from fun z => q ((iI_eq (b := 1) (by omega) (by omega)).mp z)), no, if_neg (fun z => q z.1)]
theorem which2 (N : Nat) (hN : 1000 ≤ N) (T : TQ A m h B n) {e : Nat} (he : e ≤ n) (t : tokR B U (zTok B n e)) (h27 : U 27 = 0) (hW : ∀ k, k < 9 → WD ρ (s_w h m U) (h_r (s_w h m U) (A 0) k) (zWord k)) : ∀ (q k fuel : Nat), k + q = 9 → f_M_which_2 N (q + (fuel + 1)) (s_w h m U) m (iI k) = some (iI (if (zTok B n e).1 = 1 then zWk B (zTok B n e).2.1 (zTok B n e).2.2 q k else -1), s_w h m U) := by
  have r0 := (T.1.sw m U).2.1 (0, 61, 9) (by decide)
  have ln : ∀ {β : Type} (f : Int32 → Option β), lnA (s_w h m U) 61 (some (A 0)) f = f (iI 9) := fun {β} f => by
    show (if h_k (s_w h m U) (A 0) = 61 then f (Int32.ofNat (h_n (s_w h m U) (A 0))) else none) = _
    rw [if_pos r0.2.1, r0.2.2]
    rfl
  intro q
  induction q with
  | zero =>
    intro k fuel hq
    rw [Nat.zero_add]
    unfold f_M_which_2
    rw [gR_at (T.1.sw m U) (i := 0) (k := 61) (n := 9) (by decide), ln, if_pos ((iI_le (by omega) (by omega)).mpr (by omega)), zWk]
    split <;> rfl
  | succ q ih =>
    intro k fuel hq
    have e1 : iI (k : Int) + (1 : Int32) = iI ((k + 1 : Nat) : Int) := by rw [show (1 : Int32) = iI 1 from rfl, iI_add]; rfl
    have W := hW k (by omega)
    obtain ⟨r, hr⟩ : ∃ r, h_r (s_w h m U) (A 0) k = some r := by obtain ⟨a, b, c, _⟩ := W; exact ⟨a, c⟩
    rw [hr] at W
    have iu := is_u N hN T he t h27 W (fun x hx => by have := zWord_rng k x hx; omega) (by have := zWord_len k; omega)
    rw [show q + 1 + (fuel + 1) = (q + (fuel + 1)) + 1 by omega]
    conv => lhs; unfold f_M_which_2
    rw [gR_at (T.1.sw m U) (i := 0) (k := 61) (n := 9) (by decide), ln, if_neg (fun z => by have := (iI_le (by omega) (by omega)).mp z; omega), gR_at (T.1.sw m U) (i := 0) (k := 61) (n := 9) (by decide), aR_i (h := s_w h m U) (m := 9) r0.2.1 r0.2.2 (show k < 9 by omega) (by omega), hr, nn_s, cv_u T.1, iu, cl_s, bn_i, e1, ih (k + 1) fuel (by omega), zWk]
    by_cases z1 : (zTok B n e).1 = 1
    · by_cases z2 : zBy B ((zTok B n e).2.2 - (zTok B n e).2.1) (zTok B n e).2.1 = zWord k
      · rw [if_neg (show ¬ (if (zTok B n e).1 = 1 ∧ zBy B ((zTok B n e).2.2 - (zTok B n e).2.1) (zTok B n e).2.1 = zWord k then (1 : Int32) else 0) = 0 by rw [if_pos ⟨z1, z2⟩]; decide), if_pos z1, if_pos z2]
      · rw [if_pos (show (if (zTok B n e).1 = 1 ∧ zBy B ((zTok B n e).2.2 - (zTok B n e).2.1) (zTok B n e).2.1 = zWord k then (1 : Int32) else 0) = 0 by rw [if_neg (fun y => z2 y.2)]), if_pos z1, if_pos z1, if_neg z2]
    · rw [if_pos (show (if (zTok B n e).1 = 1 ∧ zBy B ((zTok B n e).2.2 - (zTok B n e).2.1) (zTok B n e).2.1 = zWord k then (1 : Int32) else 0) = 0 by rw [if_neg (fun y => z1 y.1)]), if_neg z1, if_neg z1]
theorem which_u (N : Nat) (hN : 1000 ≤ N) (T : TQ A m h B n) {e : Nat} (he : e ≤ n) (t : tokR B U (zTok B n e)) (h27 : U 27 = 0) (hW : ∀ k, k < 9 → WD ρ (s_w h m U) (h_r (s_w h m U) (A 0) k) (zWord k)) : f_M_which N (s_w h m U) m = some (iI (zKd B (zTok B n e)), s_w h m U) := by
  have := which2 N hN T he t h27 hW 9 0 (N - 10) (by omega)
  rw [show 9 + (N - 10 + 1) = N by omega] at this
  exact this
end
