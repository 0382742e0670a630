/-! THE REFERENCE'S READER: clauses -/
def hW (A : Nat → Nat) (m : Nat) (h : hS) (R P U : Nat → Int32) : hS := s_w (s_w (s_w h (A 18) R) (A 19) P) m U
def rcR (R : Nat → Int32) (k : Nat) (a b c : Int) : Nat → Int32 := upd (upd (upd (upd (upd R (1 + 4 * k) (iI a)) (2 + 4 * k) (iI b)) (3 + 4 * k) (iI c)) (4 + 4 * k) 0) 0 (R 0 + 1)
section
variable {ρ : Nat → Nat} {A : Nat → Nat} {m : Nat} {h g u : hS} {F F' : FT} {B : Nat → Int} {n : Nat} {R P U : Nat → Int32} {β : Type}
theorem TQ.w (T : TQ A m h B n) (R P : Nat → Int32) : TQ A m (s_w (s_w h (A 18) R) (A 19) P) B n := ⟨(T.1.sw _ _).sw _ _, T.2.1, fun i hi => by
  rw [h_i_sw, if_neg (T.1.nn (by decide : (17, 50, 600) ∈ mrows) (by decide : (19, 50, 40) ∈ mrows) (by decide)), h_i_sw, if_neg (T.1.nn (by decide : (17, 50, 600) ∈ mrows) (by decide : (18, 50, 644) ∈ mrows) (by decide))]
  exact T.2.2.1 i hi, T.2.2.2⟩
theorem hW_M (M : MO A m h) : MO A m (hW A m h R P U) := M
theorem uI_18 (M : MO A m h) {k : Nat} (hk : k < 644) {v : Int32} {f : hS → Option β} : uI (hW A m h R P U) (some (A 18)) (iI (k : Int)) v f = f (hW A m h (upd R k v) P U) := by
  have m18 : (18, 50, 644) ∈ mrows := by decide
  rw [uI_iI (h := hW A m h R P U) (z := (k : Int)) ((hW_M M).ro (i := 18) (n := 644) m18) (by omega) (by omega) (by omega), Int.toNat_natCast]
  unfold hW
  rw [s_i_sw (M.ne m18 (by decide)), s_i_sw (M.nn m18 (by decide : (19, 50, 40) ∈ mrows) (by decide)), s_w_i]
theorem uI_19 (M : MO A m h) {k : Nat} (hk : k < 40) {v : Int32} {f : hS → Option β} : uI (hW A m h R P U) (some (A 19)) (iI (k : Int)) v f = f (hW A m h R (upd P k v) U) := by
  have m19 : (19, 50, 40) ∈ mrows := by decide
  rw [uI_iI (h := hW A m h R P U) (z := (k : Int)) ((hW_M M).ro (i := 19) (n := 40) m19) (by omega) (by omega) (by omega), Int.toNat_natCast]
  unfold hW
  rw [s_i_sw (M.ne m19 (by decide)), s_w_i]
theorem i18 (M : MO A m h) : h_i (hW A m h R P U) (A 18) = R := by
  unfold hW
  rw [h_i_sw, if_neg (M.ne (by decide : (18, 50, 644) ∈ mrows) (by decide)), h_i_sw, if_neg (M.nn (by decide : (18, 50, 644) ∈ mrows) (by decide : (19, 50, 40) ∈ mrows) (by decide)), h_i_sw, if_pos rfl]
theorem i19 (M : MO A m h) : h_i (hW A m h R P U) (A 19) = P := by
  unfold hW
  rw [h_i_sw, if_neg (M.ne (by decide : (19, 50, 40) ∈ mrows) (by decide)), h_i_sw, if_pos rfl]
theorem aI_18 (M : MO A m h) {f : Int32 → Option β} : aI (hW A m h R P U) 50 (some (A 18)) (0 : Int32) f = f (R 0) := by
  rw [show (0 : Int32) = iI 0 from rfl, aI_iI (h := hW A m h R P U) (z := 0) ((hW_M M).ro (i := 18) (n := 644) (by decide)) (by omega) (by omega) (by omega), i18 M]
  rfl
theorem uI_180 (M : MO A m h) {v : Int32} {f : hS → Option β} : uI (hW A m h R P U) (some (A 18)) (0 : Int32) v f = f (hW A m h (upd R 0 v) P U) := uI_18 M (k := 0) (by omega)
theorem g18 (M : MO A m h) {f : Option Nat → Option β} : gR (hW A m h R P U) (some m) 0 18 f = f (some (A 18)) := gR_at (hW_M M) (i := 18) (k := 50) (n := 644) (by decide)
theorem g19 (M : MO A m h) {f : Option Nat → Option β} : gR (hW A m h R P U) (some m) 0 19 f = f (some (A 19)) := gR_at (hW_M M) (i := 19) (k := 50) (n := 40) (by decide)
theorem gI_w (M : MO A m h) {k : Nat} {f : Int32 → Option β} : gI (hW A m h R P U) (some m) 0 k f = f (U k) := gI_u (h := s_w (s_w h (A 18) R) (A 19) P) ((M.sw _ _).sw _ _)
theorem pI_w (M : MO A m h) {k : Nat} {v : Int32} {f : hS → Option β} : pI (hW A m h R P U) (some m) 0 k v f = f (hW A m h R P (upd U k v)) := pI_u (h := s_w (s_w h (A 18) R) (A 19) P) ((M.sw _ _).sw _ _)
theorem cv_w (M : MO A m h) {α : Type} {f : Nat → Option (α × hS)} {k : α → hS → Option β} : cv (hW A m h R P U) (some m) 0 f k = cl (f m) k := cv_at (hW_M M)
/-- a clause is faulty -/
def FltS (A : Nat → Nat) (m : Nat) (h : hS) (U : Nat → Int32) (fault : Int) (place : Nat) (r : Option (Unit × hS)) : Prop := ∃ R' P' V, r = some ((), hW A m h R' P' V) ∧ (∀ k, k ∉ tkF → k ≠ 27 → k ≠ 28 → V k = U k) ∧ V 27 = iI fault ∧ V 28 = iI place
/-- a clause is read -/
def OkS (A : Nat → Nat) (m : Nat) (h : hS) (B : Nat → Int) (n : Nat) (U : Nat → Int32) (nx : Nat) (R P : Nat → Int32) (r : Option (Unit × hS)) : Prop := ∃ V, r = some ((), hW A m h R P V) ∧ (∀ k, k ∉ tkF → V k = U k) ∧ tokR B V (zTok B n nx)
theorem FltS.up {V : Nat → Int32} {fault : Int} {place : Nat} {r : Option (Unit × hS)} (f : FltS A m h V fault place r) (e : ∀ k, k ∉ tkF → k ≠ 27 → k ≠ 28 → V k = U k) : FltS A m h U fault place r := by
  obtain ⟨R', P', W, w1, w2, w3⟩ := f
  exact ⟨R', P', W, w1, fun k k1 k2 k3 => (w2 k k1 k2 k3).trans (e k k1 k2 k3), w3⟩
theorem OkS.up {V : Nat → Int32} {nx : Nat} {r : Option (Unit × hS)} (f : OkS A m h B n V nx R P r) (e : ∀ k, k ∉ tkF → V k = U k) : OkS A m h B n U nx R P r := by
  obtain ⟨W, w1, w2, w3⟩ := f
  exact ⟨W, w1, fun k k1 => (w2 k k1).trans (e k k1), w3⟩
theorem rc210 (N : Nat) (M : MO A m h) : f_M_readClause_210 N (hW A m h R P U) m = some ((), hW A m h (upd R 0 (R 0 + 1)) P U) := by
  unfold f_M_readClause_210
  rw [g18 M, aI_18 M, uI_180 M]
theorem rc199_f (N : Nat) (M : MO A m h) (h27 : U 27 ≠ 0) : f_M_readClause_199 N (hW A m h R P U) m = some ((), hW A m h (upd R 0 (R 0 + 1)) P U) := by
  unfold f_M_readClause_199
  rw [gI_w M, if_neg h27, rc210 N M]
theorem k3 (k : Nat) : iI ((1 + 4 * k : Nat) : Int) + (3 : Int32) = iI ((4 + 4 * k : Nat) : Int) := by
  rw [show (3 : Int32) = iI 3 from rfl, iI_add]; congr 1; omega
theorem k2 (k : Nat) : iI ((1 + 4 * k : Nat) : Int) + (2 : Int32) = iI ((3 + 4 * k : Nat) : Int) := by
  rw [show (2 : Int32) = iI 2 from rfl, iI_add]; congr 1; omega
theorem k1 (k : Nat) : iI ((1 + 4 * k : Nat) : Int) + (1 : Int32) = iI ((2 + 4 * k : Nat) : Int) := by
  rw [show (1 : Int32) = iI 1 from rfl, iI_add]; congr 1; omega
theorem rc175_f (N : Nat) (M : MO A m h) (h27 : U 27 ≠ 0) {k : Nat} (hk : k < 40) (y : Int32) : ∃ R', f_M_readClause_175 N (hW A m h R P U) m (iI ((1 + 4 * k : Nat) : Int)) (some (A 18)) (iI ((3 + 4 * k : Nat) : Int)) y = some ((), hW A m h R' P U) := by
  refine ⟨upd (upd (upd R (3 + 4 * k) y) (4 + 4 * k) 0) 0 (upd (upd R (3 + 4 * k) y) (4 + 4 * k) 0 0 + 1), ?_⟩
  unfold f_M_readClause_175
  rw [uI_18 M (by omega), g18 M, k3, uI_18 M (by omega), cv_w M]
  unfold hW
  rw [isMarked_f N ((M.sw _ _).sw _ _) h27, cl_s, if_pos rfl, cv_u ((M.sw _ _).sw _ _), wrong_f N ((M.sw _ _).sw _ _) h27, cl_s]
  exact rc199_f N M h27
theorem rc175_u (N : Nat) (hN : 1000 ≤ N) (T : TQ A m h B n) {e : Nat} (he : e ≤ n) (t : tokR B U (zTok B n e)) (h27 : U 27 = 0) (h22 : U 22 = iI n) {k : Nat} (hk : k < 40) (y : Int32) : (zEnd B n e = true → OkS A m h B n U (zTok B n e).2.2 (upd (upd (upd R (3 + 4 * k) y) (4 + 4 * k) 0) 0 (R 0 + 1)) P (f_M_readClause_175 N (hW A m h R P U) m (iI ((1 + 4 * k : Nat) : Int)) (some (A 18)) (iI ((3 + 4 * k : Nat) : Int)) y)) ∧ (¬ zEnd B n e = true → FltS A m h U 1 (zTok B n e).2.1 (f_M_readClause_175 N (hW A m h R P U) m (iI ((1 + 4 * k : Nat) : Int)) (some (A 18)) (iI ((3 + 4 * k : Nat) : Int)) y)) := by
  have M := T.1
  have hr := zTok_rng (B := B) he
  have T' := T.w (upd (upd R (3 + 4 * k) y) (4 + 4 * k) 0) P
  have mk := isMarked_u N T' he t h27 (c := 59) (by omega)
  have st : f_M_readClause_175 N (hW A m h R P U) m (iI ((1 + 4 * k : Nat) : Int)) (some (A 18)) (iI ((3 + 4 * k : Nat) : Int)) y = (if (if (zTok B n e).1 = 3 ∧ B (zTok B n e).2.1 = 59 then (1 : Int32) else 0) = (0 : Int32) then (cl (f_M_wrong N (hW A m h (upd (upd R (3 + 4 * k) y) (4 + 4 * k) 0) P U) m (1 : Int32)) fun _ h7 => f_M_readClause_199 N h7 m) else (f_M_readClause_199 N (hW A m h (upd (upd R (3 + 4 * k) y) (4 + 4 * k) 0) P U) m)) := by
    unfold f_M_readClause_175
    rw [uI_18 M (by omega), g18 M, k3, uI_18 M (by omega), cv_w M, show f_M_isMarked N (hW A m h (upd (upd R (3 + 4 * k) y) (4 + 4 * k) 0) P U) m (59 : Int32) = _ from mk, cl_s]
    show (if (if (zTok B n e).1 = 3 ∧ B (zTok B n e).2.1 = 59 then (1 : Int32) else 0) = (0 : Int32) then (cv (hW A m h (upd (upd R (3 + 4 * k) y) (4 + 4 * k) 0) P U) (some m) 0 (fun a => f_M_wrong N (hW A m h (upd (upd R (3 + 4 * k) y) (4 + 4 * k) 0) P U) a (1 : Int32)) fun _ h7 => f_M_readClause_199 N h7 m) else (f_M_readClause_199 N (hW A m h (upd (upd R (3 + 4 * k) y) (4 + 4 * k) 0) P U) m)) = _
    rw [cv_w M]
  have r0 : upd (upd R (3 + 4 * k) y) (4 + 4 * k) 0 0 = R 0 := by rw [upd_o (by omega), upd_o (by omega)]
  rw [st]
  unfold zEnd
  constructor
  · intro q
    have q' := of_decide_eq_true q
    obtain ⟨V, v1, v2, v3⟩ := stepOn_u N hN T' hr.1.2.2 U t.1 h22
    rw [if_neg (show ¬ (if (zTok B n e).1 = 3 ∧ B (zTok B n e).2.1 = 59 then (1 : Int32) else 0) = 0 by rw [if_pos q']; decide)]
    refine ⟨V, ?_, v2, v3⟩
    unfold f_M_readClause_199
    rw [gI_w M, h27, if_pos rfl, cv_w M, show f_M_stepOn N (hW A m h (upd (upd R (3 + 4 * k) y) (4 + 4 * k) 0) P U) m = _ from v1, cl_s]
    refine (rc210 N M).trans ?_
    rw [r0]
  · intro q
    have q' : ¬ ((zTok B n e).1 = 3 ∧ B (zTok B n e).2.1 = 59) := fun z => q (decide_eq_true z)
    rw [if_pos (show (if (zTok B n e).1 = 3 ∧ B (zTok B n e).2.1 = 59 then (1 : Int32) else 0) = 0 by rw [if_neg q'])]
    refine ⟨upd (upd (upd R (3 + 4 * k) y) (4 + 4 * k) 0) 0 (upd (upd R (3 + 4 * k) y) (4 + 4 * k) 0 0 + 1), P, upd (upd U 27 1) 28 (U 25), ?_, fun j j1 j2 j3 => by rw [upd_o j3, upd_o j2], by rw [upd_o (by decide), upd_a]; rfl, by rw [upd_a]; exact t.2.2.1⟩
    rw [show f_M_wrong N (hW A m h (upd (upd R (3 + 4 * k) y) (4 + 4 * k) 0) P U) m (1 : Int32) = _ from wrong_u N T'.1 h27 1, cl_s]
    exact rc199_f N M (by rw [upd_o (by decide), upd_a]; decide)
theorem rc147_f (N : Nat) (M : MO A m h) (h27 : U 27 ≠ 0) {k : Nat} (hk : k < 40) (x2 y : Int32) : ∃ R', f_M_readClause_147 N (hW A m h R P U) m x2 (iI ((1 + 4 * k : Nat) : Int)) (some (A 18)) (iI ((2 + 4 * k : Nat) : Int)) y = some ((), hW A m h R' P U) := by
  have num : ∀ R : Nat → Int32, ∃ R', f_M_readClause_165 N (hW A m h R P U) m (iI ((1 + 4 * k : Nat) : Int)) (some (A 18)) (iI ((3 + 4 * k : Nat) : Int)) = some ((), hW A m h R' P U) := fun R => by
    obtain ⟨R', r⟩ := rc175_f N M h27 hk 0 (R := R) (P := P)
    refine ⟨R', ?_⟩
    unfold f_M_readClause_165
    rw [cv_w M, show f_M_readNumber N (hW A m h R P U) m (99 : Int32) = _ from readNumber_f N ((M.sw _ _).sw _ _) h27 99, cl_s]
    exact r
  unfold f_M_readClause_147
  rw [uI_18 M (by omega), g18 M, k2]
  by_cases q1 : x2 ≤ (2 : Int32)
  · rw [if_pos q1]; exact num _
  · rw [if_neg q1]
    by_cases q2 : x2 = (4 : Int32)
    · rw [if_pos q2]; exact num _
    · rw [if_neg q2]; exact rc175_f N M h27 hk 0
theorem rc147_u (N : Nat) (hN : 1000 ≤ N) (T : TQ A m h B n) {e : Nat} (he : e ≤ n) (t : tokR B U (zTok B n e)) (h27 : U 27 = 0) (h22 : U 22 = iI n) {k : Nat} (hk : k < 40) {kd : Int} (hkd : 0 ≤ kd ∧ kd ≤ 8) (y : Int32) : (zSf B n kd e = 0 → zEnd B n (zSe B n kd e) = true → OkS A m h B n U (zTok B n (zSe B n kd e)).2.2 (upd (upd (upd (upd R (2 + 4 * k) y) (3 + 4 * k) (iI (zSw B n kd e))) (4 + 4 * k) 0) 0 (R 0 + 1)) P (f_M_readClause_147 N (hW A m h R P U) m (iI kd) (iI ((1 + 4 * k : Nat) : Int)) (some (A 18)) (iI ((2 + 4 * k : Nat) : Int)) y)) ∧ (zSf B n kd e = 0 → ¬ zEnd B n (zSe B n kd e) = true → FltS A m h U 1 (zTok B n (zSe B n kd e)).2.1 (f_M_readClause_147 N (hW A m h R P U) m (iI kd) (iI ((1 + 4 * k : Nat) : Int)) (some (A 18)) (iI ((2 + 4 * k : Nat) : Int)) y)) ∧ (zSf B n kd e ≠ 0 → FltS A m h U (zSf B n kd e) (zSa B n e) (f_M_readClause_147 N (hW A m h R P U) m (iI kd) (iI ((1 + 4 * k : Nat) : Int)) (some (A 18)) (iI ((2 + 4 * k : Nat) : Int)) y)) := by
  have M := T.1
  have r0 : upd R (2 + 4 * k) y 0 = R 0 := by rw [upd_o (by omega)]
  by_cases q : kd ≤ 2 ∨ kd = 4
  · have zn : zNum kd = 2 := by unfold zNum; rw [if_pos q]
    have st : f_M_readClause_147 N (hW A m h R P U) m (iI kd) (iI ((1 + 4 * k : Nat) : Int)) (some (A 18)) (iI ((2 + 4 * k : Nat) : Int)) y = f_M_readClause_165 N (hW A m h (upd R (2 + 4 * k) y) P U) m (iI ((1 + 4 * k : Nat) : Int)) (some (A 18)) (iI ((3 + 4 * k : Nat) : Int)) := by
      unfold f_M_readClause_147
      rw [uI_18 M (by omega), g18 M, k2]
      by_cases q1 : kd ≤ 2
      · rw [if_pos (show iI kd ≤ (2 : Int32) from (iI_le (b := 2) (by omega) (by omega)).mpr q1)]
      · rw [if_neg (show ¬ iI kd ≤ (2 : Int32) from fun z => q1 ((iI_le (b := 2) (by omega) (by omega)).mp z)), if_pos (show iI kd = (4 : Int32) by rw [q.resolve_left q1]; rfl)]
    rw [st]
    obtain ⟨p1, p2⟩ := readNumber_u N hN (T.w (upd R (2 + 4 * k) y) P) he t h27 h22 (hi := 99) (by omega)
    have hn := zNt_rng (B := B) false he
    unfold f_M_readClause_165 zSf zSe zSw zSa
    rw [if_pos zn, if_pos zn, if_pos zn, cv_w M]
    have ok : zNf B n false 99 e = 0 → ∃ V, f_M_readNumber N (hW A m h (upd R (2 + 4 * k) y) P U) m (99 : Int32) = some (iI (zNw B n false 99 e), hW A m h (upd R (2 + 4 * k) y) P V) ∧ (∀ j, j ∉ tkF → V j = U j) ∧ tokR B V (zTok B n (zNt B n false e).2.2) := p1
    refine ⟨fun z1 z2 => ?_, fun z1 z2 => ?_, fun z1 => ?_⟩
    · obtain ⟨V, v1, v2, v3⟩ := ok z1
      rw [v1, cl_s]
      have := (rc175_u N hN T hn.2.2.1 v3 (by rw [v2 27 (by decide), h27]) (by rw [v2 22 (by decide), h22]) hk (iI (zNw B n false 99 e)) (R := upd R (2 + 4 * k) y) (P := P)).1 z2
      rw [r0] at this
      exact this.up v2
    · obtain ⟨V, v1, v2, v3⟩ := ok z1
      rw [v1, cl_s]
      exact ((rc175_u N hN T hn.2.2.1 v3 (by rw [v2 27 (by decide), h27]) (by rw [v2 22 (by decide), h22]) hk (iI (zNw B n false 99 e)) (R := upd R (2 + 4 * k) y) (P := P)).2 z2).up (fun j j1 _ _ => v2 j j1)
    · obtain ⟨V, a, v1, v2, v3, v4⟩ := p2 z1
      have fr := zNf_rng B n false 99 e
      obtain ⟨R', r⟩ := rc175_f N M (U := V) (R := upd R (2 + 4 * k) y) (P := P) (by rw [v3]; exact fun z => z1 ((iI_eq (b := 0) (by omega) (by omega)).mp z)) hk a
      refine ⟨R', P, V, ?_, v2, v3, v4⟩
      rw [show f_M_readNumber N (hW A m h (upd R (2 + 4 * k) y) P U) m (99 : Int32) = _ from v1, cl_s]
      exact r
  · have zn : ¬ zNum kd = 2 := by unfold zNum; rw [if_neg q]; split <;> omega
    have st : f_M_readClause_147 N (hW A m h R P U) m (iI kd) (iI ((1 + 4 * k : Nat) : Int)) (some (A 18)) (iI ((2 + 4 * k : Nat) : Int)) y = f_M_readClause_175 N (hW A m h (upd R (2 + 4 * k) y) P U) m (iI ((1 + 4 * k : Nat) : Int)) (some (A 18)) (iI ((3 + 4 * k : Nat) : Int)) 0 := by
      unfold f_M_readClause_147
      rw [uI_18 M (by omega), g18 M, k2, if_neg (show ¬ iI kd ≤ (2 : Int32) from fun z => q (Or.inl ((iI_le (b := 2) (by omega) (by omega)).mp z))), if_neg (show ¬ iI kd = (4 : Int32) from fun z => q (Or.inr ((iI_eq (b := 4) (by omega) (by omega)).mp z)))]
    rw [st]
    unfold zSf zSe zSw zSa
    rw [if_neg zn, if_neg zn, if_neg zn]
    obtain ⟨c1, c2⟩ := rc175_u N hN T he t h27 h22 hk 0 (R := upd R (2 + 4 * k) y) (P := P)
    rw [r0] at c1
    exact ⟨fun _ z2 => c1 z2, fun _ z2 => c2 z2, fun z => absurd rfl z⟩
end
