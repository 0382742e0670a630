/-! THE REFERENCE'S ASKERS, beside the class's: told -/
def TL (w : Int) (U V : Nat → Int32) (n : Nat) (L : List Int) : Prop := (∀ k, k ≠ 39 → k ≠ 40 → V k = U k) ∧ V 39 = iI ((n + L.length : Nat) : Int) ∧ V 40 = hear w n (U 40) L
def UK (m : Nat) (h : hS) (w : Int) (U : Nat → Int32) (n : Nat) : Prop := (∀ k, k ∉ scF → U k = h_i h m k) ∧ U 38 = iI w ∧ U 39 = iI n
theorem TL.app {w : Int} {U V W : Nat → Int32} {n : Nat} {L K : List Int} (a : TL w U V n L) (b : TL w V W (n + L.length) K) : TL w U W n (L ++ K) := ⟨fun k h1 h2 => (b.1 k h1 h2).trans (a.1 k h1 h2), by rw [b.2.1, List.length_append]; congr 2; omega, by rw [b.2.2, a.2.2, hear_app]; rfl⟩
theorem TL.nil (w : Int) {U : Nat → Int32} {n : Nat} (h : U 39 = iI n) : TL w U U n [] := ⟨fun _ _ _ => rfl, h, rfl⟩
theorem UK.tl {m : Nat} {h : hS} {w : Int} {U V : Nat → Int32} {n : Nat} {L : List Int} (u : UK m h w U n) (t : TL w U V n L) : UK m h w V (n + L.length) := ⟨fun k hk => by rw [t.1 k (fun e => hk (by rw [e]; decide)) (fun e => hk (by rw [e]; decide))]; exact u.1 k hk, by rw [t.1 38 (by decide) (by decide)]; exact u.2.1, t.2.1⟩
section
variable {ρ : Nat → Nat} {A : Nat → Nat} {m : Nat} {h g u : hS} {F F' : FT} {U V : Nat → Int32} {w : Int} {n : Nat}
theorem UK.f (u : UK m h w U n) : frM A m h (s_w h m U) := ⟨⟨rfl, rfl, rfl, rfl, rfl⟩, fun q _ h2 => by rw [h_i_sw, if_neg h2], fun k hk => by rw [h_i_sw, if_pos rfl]; exact u.1 k hk, fun _ _ => rfl⟩
theorem RM.uk (X : RM ρ A m h F) (u : UK m h w U n) : RM ρ A m (s_w h m U) F := (X.fr u.f).1
theorem tellByte_u (N : Nat) (M : MO A m h) (hw : i32 w) (u : UK m h w U n) (hn : n ≤ 5000) (b : Int) : ∃ V, f_M_tellByte N (s_w h m U) m (iI b) = some ((), s_w h m V) ∧ TL w U V n [b] := by
  unfold i32 at hw
  have e1 : iI (n : Int) + (1 : Int32) = iI ((n + 1 : Nat) : Int) := by rw [show (1 : Int32) = iI 1 from rfl, iI_add]; rfl
  unfold f_M_tellByte f_M_tellByte_16
  rw [gI_u M, u.2.2, gI_u M, u.2.1]
  by_cases q : (n : Int) = w
  · refine ⟨upd (upd U 40 (iI b)) 39 (iI ((n + 1 : Nat) : Int)), ?_, fun k h1 h2 => by rw [upd_o h1, upd_o h2], by rw [upd_a]; rfl, ?_⟩
    · rw [if_pos (by rw [q]), pI_u M, gI_u M, upd_o (by decide), u.2.2, pI_u M, e1]
    · rw [upd_o (by decide), upd_a]
      show iI b = hear w ((n : Int) + 1) (if (n : Int) = w then iI b else U 40) []
      rw [if_pos q]; rfl
  · refine ⟨upd U 39 (iI ((n + 1 : Nat) : Int)), ?_, fun k h1 h2 => by rw [upd_o h1], by rw [upd_a]; rfl, ?_⟩
    · rw [if_neg (fun z => q ((iI_eq (by omega) (by omega)).mp z)), gI_u M, u.2.2, pI_u M, e1]
    · rw [upd_o (by decide)]
      show U 40 = hear w ((n : Int) + 1) (if (n : Int) = w then iI b else U 40) []
      rw [if_neg q]; rfl
theorem tell14 (N : Nat) (M : MO A m h) (hw : i32 w) (u : UK m h w U n) (hn : n ≤ 5000) {r : Int} (hr : 0 ≤ r ∧ r ≤ 999) : ∃ V, f_M_tellDigits_14 N (s_w h m U) m (iI r) = some ((), s_w h m V) ∧ TL w U V n [48 + r % 10] := by
  obtain ⟨V, v1, v2⟩ := tellByte_u N M hw u hn (48 + r % 10)
  refine ⟨V, ?_, v2⟩
  unfold f_M_tellDigits_14
  have e : (48 : Int32) + (iI r - iI r / (10 : Int32) * (10 : Int32)) = iI (48 + r % 10) := by
    rw [show (10 : Int32) = iI 10 from rfl, iI_divn (by omega) (by omega), iI_mul, iI_sub, show (48 : Int32) = iI 48 from rfl, iI_add]
    congr 1; omega
  rw [dv_ok (by decide), cv_u M, e, v1, cl_s]
theorem tellDigits_u (N : Nat) (M : MO A m h) (hw : i32 w) (u : UK m h w U n) (hn : n + 3 ≤ 5000) {r : Int} (hr : 0 ≤ r ∧ r ≤ 999) : ∃ V, f_M_tellDigits N (s_w h m U) m (iI r) = some ((), s_w h m V) ∧ TL w U V n (zDig r) := by
  have d10 : ∀ r : Int, 0 ≤ r ∧ r ≤ 999 → iI r / (10 : Int32) = iI (r / 10) := fun r hr => by rw [show (10 : Int32) = iI 10 from rfl, iI_divn (by omega) (by omega)]
  have le9 : ∀ r : Int, 0 ≤ r ∧ r ≤ 999 → (iI r ≤ (9 : Int32) ↔ r ≤ 9) := fun r hr => iI_le (b := 9) (by omega) (by omega)
  unfold zDig
  by_cases q1 : r ≤ 9
  · obtain ⟨V, v1, v2⟩ := tell14 N M hw u (by omega) hr
    refine ⟨V, ?_, ?_⟩
    · unfold f_M_tellDigits
      rw [if_pos ((le9 r hr).mpr q1)]
      exact v1
    · rw [if_neg (by omega), if_neg (by omega)]; exact v2
  · by_cases q2 : r / 10 ≤ 9
    · obtain ⟨V, v1, v2⟩ := tell14 N M hw u (by omega) (r := r / 10) (by omega)
      obtain ⟨W, w1, w2⟩ := tell14 N M hw (u.tl v2) (by simp; omega) hr
      refine ⟨W, ?_, ?_⟩
      · unfold f_M_tellDigits f_M_tellDigits_L10
        rw [if_neg (fun z => q1 ((le9 r hr).mp z)), dv_ok (by decide), cv_u M, d10 r hr, if_pos ((le9 _ (by omega)).mpr q2)]
        rw [show f_M_tellDigits_L10_14 N (s_w h m U) m (iI (r / 10)) = some ((), s_w h m V) from v1, cl_s]
        exact w1
      · rw [if_neg (by omega), if_pos (by omega)]
        have := v2.app w2
        rw [show r / 10 % 10 = r / 10 % 10 from rfl] at this
        exact this
    · obtain ⟨V0, y1, y2⟩ := tell14 N M hw u (by omega) (r := r / 10 / 10) (by omega)
      obtain ⟨V, v1, v2⟩ := tell14 N M hw (u.tl y2) (by simp; omega) (r := r / 10) (by omega)
      obtain ⟨W, w1, w2⟩ := tell14 N M hw ((u.tl y2).tl v2) (by simp; omega) hr
      refine ⟨W, ?_, ?_⟩
      · unfold f_M_tellDigits f_M_tellDigits_L10 f_M_tellDigits_L9
        rw [if_neg (fun z => q1 ((le9 r hr).mp z)), dv_ok (by decide), cv_u M, d10 r hr, if_neg (fun z => q2 ((le9 _ (by omega)).mp z)), dv_ok (by decide), cv_u M, d10 _ (by omega), if_pos ((le9 _ (by omega)).mpr (by omega))]
        rw [show f_M_tellDigits_L9_14 N (s_w h m U) m (iI (r / 10 / 10)) = some ((), s_w h m V0) from y1, cl_s]
        rw [show f_M_tellDigits_L10_14 N (s_w h m V0) m (iI (r / 10)) = some ((), s_w h m V) from v1, cl_s]
        exact w1
      · rw [if_pos (by omega), if_pos (by omega)]
        have := y2.app (v2.app w2)
        rw [show r / 10 / 10 % 10 = r / 100 by omega] at this
        exact this
theorem tellNumber_u (N : Nat) (M : MO A m h) (hw : i32 w) (u : UK m h w U n) (hn : n + 5 ≤ 5000) {a : Int} (ha : -999 ≤ a ∧ a ≤ 999) : ∃ V, f_M_tellNumber N (s_w h m U) m (iI a) = some ((), s_w h m V) ∧ TL w U V n (zNumb a) := by
  obtain ⟨V, v1, v2⟩ := tellByte_u N M hw u (by omega) 32
  have u1 := u.tl v2
  unfold f_M_tellNumber f_M_tellNumber_16 zNumb
  rw [cv_u M, show (32 : Int32) = iI 32 from rfl, v1, cl_s]
  have l1 : ([32] : List Int).length = 1 := rfl
  by_cases q : a < 0
  · rw [if_neg (show ¬ (0 : Int32) ≤ iI a from fun z => by have := (iI_le (a := 0) (by omega) (by omega)).mp z; omega), if_pos q, if_pos q]
    obtain ⟨V2, v3, v4⟩ := tellByte_u N M hw u1 (by rw [l1]; omega) 45
    have u2 := u1.tl v4
    obtain ⟨V3, v5, v6⟩ := tellDigits_u N M hw u2 (by rw [l1]; simp; omega) (r := -a) (by omega)
    refine ⟨V3, ?_, v2.app (v4.app v6)⟩
    rw [cv_u M, show (45 : Int32) = iI 45 from rfl, v3, cl_s, cv_u M, jab_is (by omega), if_pos q, v5, cl_s]
  · rw [if_pos (show (0 : Int32) ≤ iI a from (iI_le (a := 0) (by omega) (by omega)).mpr (by omega)), if_neg q, if_neg q]
    obtain ⟨V3, v5, v6⟩ := tellDigits_u N M hw u1 (by rw [l1]; omega) (r := a) (by omega)
    refine ⟨V3, ?_, v2.app v6⟩
    rw [cv_u M, jab_is (by omega), if_neg q, v5, cl_s]
/-- what is left of a word, the numbers, the sign ; -/
theorem tell27 (N : Nat) (X : RM ρ A m h F) (hw : i32 w) (rc : hS → Nat → Int32 → Int32 → Option (Unit × hS)) {c i : Nat} (hc : c < 4) (hi : i < (F.1.1 c).1) {kd a b : Int} (hp : (F.1.1 c).2.1 i = (kd, a, b)) (ok : okArg kd a b) : ∀ (q j n fuel : Nat) (U : Nat → Int32), j + q = (zWord kd.toNat).length → UK m h w U n → n + q + 11 ≤ 5000 → ∃ V, f_M_tellSteps_27 N rc (q + (fuel + 1)) (s_w h m U) m (iI c) (iI i) (iI kd) (iI j) = rc (s_w h m V) m (iI c) (iI ((i + 1 : Nat) : Int)) ∧ TL w U V n ((zWord kd.toNat).drop j ++ ((if 1 ≤ zNum kd then zNumb a else []) ++ ((if zNum kd = 2 then zNumb b else []) ++ [59]))) := by
  have M := X.1.1
  obtain ⟨o1, o2, o3, o4, o7⟩ := ok
  have v40 := (X.2.2.2.2.1.2.1 c hc).1
  have kk : ((kd.toNat : Nat) : Int) = kd := by omega
  have wl := zWord_len kd.toNat
  have wr := zWord_rng kd.toNat
  have r0 := fun (U : Nat → Int32) => (M.sw m U).2.1 (0, 61, 9) (by decide)
  have word : ∀ U : Nat → Int32, ∃ r, h_r (s_w h m U) (A 0) kd.toNat = r ∧ WD ρ (s_w h m U) r (zWord kd.toNat) := fun U => ⟨_, rfl, (X.2.2.2.1 kd.toNat (by omega)).keep (X.ch (swm_c A m h U)).1 (fun z => by have : (30 : Nat) = 300 := z; omega)⟩
  have rd : ∀ (U : Nat → Int32) {β : Type} (f : Option Nat → Option β), aR (s_w h m U) 61 (some (A 0)) (iI kd) f = f (h_r (s_w h m U) (A 0) kd.toNat) := fun U {β} f => by
    rw [← kk, aR_i (h := s_w h m U) (m := 9) (r0 U).2.1 (r0 U).2.2 (show kd.toNat < 9 by omega) (by omega)]
    simp only [Int.toNat_natCast]
  have ei : iI (i : Int) + (1 : Int32) = iI ((i + 1 : Nat) : Int) := by rw [show (1 : Int32) = iI 1 from rfl, iI_add]; rfl
  -- the sign
  have e105 : ∀ (n : Nat) (U : Nat → Int32), UK m h w U n → n + 1 ≤ 5000 → ∃ V, f_M_tellSteps_105 N rc (s_w h m U) m (iI c) (iI i) = rc (s_w h m V) m (iI c) (iI ((i + 1 : Nat) : Int)) ∧ TL w U V n [59] := fun n U u hn => by
    obtain ⟨V, v1, v2⟩ := tellByte_u N M hw u (by omega) 59
    refine ⟨V, ?_, v2⟩
    unfold f_M_tellSteps_105
    rw [cv_u M, show (59 : Int32) = iI 59 from rfl, v1, cl_s, bn_i, ei]
  -- the second number
  have e84 : ∀ (n : Nat) (U : Nat → Int32), UK m h w U n → n + 6 ≤ 5000 → ∃ V, f_M_tellSteps_84 N rc (s_w h m U) m (iI c) (iI i) (iI kd) = rc (s_w h m V) m (iI c) (iI ((i + 1 : Nat) : Int)) ∧ TL w U V n ((if zNum kd = 2 then zNumb b else []) ++ [59]) := fun n U u hn => by
    by_cases q : kd ≤ 2 ∨ kd = 4
    · have zn : zNum kd = 2 := by unfold zNum; rw [if_pos q]
      rw [if_pos zn]
      have s2 := stepAtM N (X.uk u) (c := c) (i := i) (w := 2) hc hi (by omega)
      rw [if_neg (by decide), if_neg (by decide), hp] at s2
      have hb : 0 ≤ b ∧ b ≤ 99 := by
        rcases q with z | z
        · exact (o2 z).2
        · exact (o4 z).2
      obtain ⟨V, v1, v2⟩ := tellNumber_u N M hw u (by omega) (a := b) (by omega)
      have l5 := zNumb_len b
      obtain ⟨W, w1, w2⟩ := e105 (n + (zNumb b).length) V (u.tl v2) (by omega)
      refine ⟨W, ?_, v2.app w2⟩
      have e94 : f_M_tellSteps_94 N rc (s_w h m U) m (iI c) (iI i) = rc (s_w h m W) m (iI c) (iI ((i + 1 : Nat) : Int)) := by
        unfold f_M_tellSteps_94
        rw [cv_u M, show (2 : Int32) = iI ((2 : Nat) : Int) from rfl, s2, cl_s, cv_u M]
        simp only []
        rw [v1, cl_s, w1]
      unfold f_M_tellSteps_84
      by_cases q1 : kd ≤ 2
      · rw [if_pos (show iI kd ≤ (2 : Int32) from (iI_le (b := 2) (by omega) (by omega)).mpr q1), e94]
      · rw [if_neg (show ¬ iI kd ≤ (2 : Int32) from fun z => q1 ((iI_le (b := 2) (by omega) (by omega)).mp z)), if_pos (show iI kd = (4 : Int32) by rw [q.resolve_left q1]; rfl), e94]
    · have zn : ¬ zNum kd = 2 := by unfold zNum; rw [if_neg q]; split <;> omega
      rw [if_neg zn]
      obtain ⟨W, w1, w2⟩ := e105 n U u (by omega)
      refine ⟨W, ?_, w2⟩
      unfold f_M_tellSteps_84
      rw [if_neg (show ¬ iI kd ≤ (2 : Int32) from fun z => q (Or.inl ((iI_le (b := 2) (by omega) (by omega)).mp z))), if_neg (show ¬ iI kd = (4 : Int32) from fun z => q (Or.inr ((iI_eq (b := 4) (by omega) (by omega)).mp z))), w1]
  intro q
  induction q with
  | zero =>
    intro j n fuel U hj u hn
    have ej : (zWord kd.toNat).drop j = [] := List.drop_eq_nil_of_le (by omega)
    obtain ⟨r, hr, W⟩ := word U
    rw [ej, List.nil_append, Nat.zero_add]
    have st : f_M_tellSteps_27 N rc (fuel + 1) (s_w h m U) m (iI c) (iI i) (iI kd) (iI j) = if iI kd = (5 : Int32) then (f_M_tellSteps_84 N rc (s_w h m U) m (iI c) (iI i) (iI kd)) else (if iI kd = (6 : Int32) then (f_M_tellSteps_84 N rc (s_w h m U) m (iI c) (iI i) (iI kd)) else (cl (f_M_stepAt N (s_w h m U) m (iI c) (iI i) (1 : Int32)) fun v5 h6 => cv h6 (some m) 0 (fun a => f_M_tellNumber N h6 a v5) fun _ h8 => f_M_tellSteps_84 N rc h8 m (iI c) (iI i) (iI kd))) := by
      unfold f_M_tellSteps_27
      rw [gR_at (M.sw m U) (i := 0) (k := 61) (n := 9) (by decide), rd U, hr, W.len, if_pos ((iI_le (by omega) (by omega)).mpr (by omega)), cv_u M]
    rw [st]
    by_cases q56 : kd = 5 ∨ kd = 6
    · have zn : ¬ 1 ≤ zNum kd := by unfold zNum; rw [if_neg (by omega), if_pos q56]; decide
      rw [if_neg zn, List.nil_append]
      obtain ⟨V, v1, v2⟩ := e84 n U u (by omega)
      refine ⟨V, ?_, v2⟩
      by_cases q5 : kd = 5
      · rw [if_pos (show iI kd = (5 : Int32) by rw [q5]; rfl), v1]
      · rw [if_neg (show ¬ iI kd = (5 : Int32) from fun z => q5 ((iI_eq (b := 5) (by omega) (by omega)).mp z)), if_pos (show iI kd = (6 : Int32) by rw [q56.resolve_left q5]; rfl), v1]
    · have zn : 1 ≤ zNum kd := by unfold zNum; rw [if_neg q56]; split <;> omega
      rw [if_pos zn]
      have s1 := stepAtM N (X.uk u) (c := c) (i := i) (w := 1) hc hi (by omega)
      rw [if_neg (by decide), if_pos rfl, hp] at s1
      have ha : -999 ≤ a ∧ a ≤ 999 := by
        by_cases z2 : kd ≤ 2
        · have := (o2 z2).1; omega
        by_cases z3 : kd = 3
        · have := o3 z3; omega
        by_cases z4 : kd = 4
        · have := (o4 z4).1; omega
        by_cases z7 : kd = 7
        · have := o7 z7; omega
        · have z8 : kd = 8 := by omega
          have := ((X.2.2.2.2.1.2.1 c hc).2.1 i hi).2
          rw [hp] at this
          have := (this z8).2
          simp only [] at this
          omega
      obtain ⟨V, v1, v2⟩ := tellNumber_u N M hw u (by omega) (a := a) ha
      have l5 := zNumb_len a
      obtain ⟨W2, w1, w2⟩ := e84 (n + (zNumb a).length) V (u.tl v2) (by omega)
      refine ⟨W2, ?_, v2.app w2⟩
      rw [if_neg (show ¬ iI kd = (5 : Int32) from fun z => q56 (Or.inl ((iI_eq (b := 5) (by omega) (by omega)).mp z))), if_neg (show ¬ iI kd = (6 : Int32) from fun z => q56 (Or.inr ((iI_eq (b := 6) (by omega) (by omega)).mp z))), show (1 : Int32) = iI ((1 : Nat) : Int) from rfl, s1, cl_s, cv_u M]
      simp only []
      rw [v1, cl_s, w1]
  | succ q ih =>
    intro j n fuel U hj u hn
    have jl : j < (zWord kd.toNat).length := by omega
    obtain ⟨r, hr, W⟩ := word U
    have e1 : iI (j : Int) + (1 : Int32) = iI ((j + 1 : Nat) : Int) := by rw [show (1 : Int32) = iI 1 from rfl, iI_add]; rfl
    obtain ⟨V, v1, v2⟩ := tellByte_u N M hw u (by omega) (zWord kd.toNat)[j]
    obtain ⟨V2, v3, v4⟩ := ih (j + 1) (n + 1) fuel V (by omega) (u.tl v2) (by omega)
    refine ⟨V2, ?_, ?_⟩
    · rw [show q + 1 + (fuel + 1) = (q + (fuel + 1)) + 1 by omega]
      conv => lhs; unfold f_M_tellSteps_27
      rw [gR_at (M.sw m U) (i := 0) (k := 61) (n := 9) (by decide), rd U, hr, W.len, if_neg (fun z => by have := (iI_le (by omega) (by omega)).mp z; omega), gR_at (M.sw m U) (i := 0) (k := 61) (n := 9) (by decide), rd U, hr, W.at N (fun x hx => by have := wr x hx; omega) (by omega) jl, cv_u M, v1, cl_s, bn_i, e1]
      exact v3
    · rw [List.drop_eq_getElem_cons jl]
      exact v2.app v4
theorem tell7 (N : Nat) (hN : 30000 ≤ N) (X : RM ρ A m h F) (hw : i32 w) {c : Nat} (hc : c < 4) : ∀ (q i n fuel : Nat) (U : Nat → Int32), i + q = (F.1.1 c).1 → UK m h w U n → n + 16 * q + 16 ≤ 5000 → ∃ V, f_M_tellSteps_7 N (q + (fuel + 1)) (s_w h m U) m (iI c) (iI i) = some ((), s_w h m V) ∧ TL w U V n (zTx (F.1.1 c).2.1 q i) := by
  have M := X.1.1
  have v := X.2.2.2.2.1.2.1 c hc
  have v40 := v.1
  intro q
  induction q with
  | zero =>
    intro i n fuel U hq u hn
    refine ⟨U, ?_, TL.nil w u.2.2⟩
    rw [Nat.zero_add]
    unfold f_M_tellSteps_7
    rw [cv_u M, stepsM N (X.uk u) hc, cl_s, if_pos ((iI_le (by omega) (by omega)).mpr (by omega))]
  | succ q ih =>
    intro i n fuel U hq u hn
    have hi : i < (F.1.1 c).1 := by omega
    obtain ⟨⟨kd, a, b⟩, hp⟩ : ∃ p, (F.1.1 c).2.1 i = p := ⟨_, rfl⟩
    have ok := (v.2.1 i hi).1
    rw [hp] at ok
    have s0 := stepAtM N (X.uk u) (c := c) (i := i) (w := 0) hc hi (by omega)
    rw [if_pos rfl, hp] at s0
    have wl := zWord_len kd.toNat
    obtain ⟨V, v1, v2⟩ := tell27 N X hw (f_M_tellSteps_7 N (q + (fuel + 1))) hc hi hp ok (zWord kd.toNat).length 0 n (N - (zWord kd.toNat).length - 1) U (by omega) u (by omega)
    rw [show (zWord kd.toNat).length + (N - (zWord kd.toNat).length - 1 + 1) = N by omega] at v1
    rw [List.drop_zero] at v2
    have v2' : TL w U V n (zStp ((F.1.1 c).2.1 i)) := by rw [hp]; exact v2
    have l16 := zStp_len ((F.1.1 c).2.1 i)
    obtain ⟨W, w1, w2⟩ := ih (i + 1) (n + (zStp ((F.1.1 c).2.1 i)).length) fuel V (by omega) (u.tl v2') (by omega)
    refine ⟨W, ?_, v2'.app w2⟩
    rw [show q + 1 + (fuel + 1) = (q + (fuel + 1)) + 1 by omega]
    conv => lhs; unfold f_M_tellSteps_7
    rw [cv_u M, stepsM N (X.uk u) hc, cl_s, if_neg (fun z => by have := (iI_le (by omega) (by omega)).mp z; omega), cv_u M, show (0 : Int32) = iI ((0 : Nat) : Int) from rfl, s0, cl_s]
    refine (show f_M_tellSteps_27 N (f_M_tellSteps_7 N (q + (fuel + 1))) N (s_w h m U) m (iI c) (iI i) (iI kd) (iI ((0 : Nat) : Int)) = _ from v1).trans ?_
    exact w1
end
