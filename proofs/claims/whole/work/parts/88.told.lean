/-! TELLING: bytes are put one by one; of them one is heard -/
def hear (w : Int) : Int → Int32 → List Int → Int32
  | _, v, [] => v
  | n, v, b :: t => hear w (n + 1) (if n = w then iI b else v) t
theorem hear_app (w : Int) : ∀ (L K : List Int) (n : Int) (v : Int32), hear w n v (L ++ K) = hear w (n + L.length) (hear w n v L) K := by
  intro L
  induction L with
  | nil => intro K n v; simp [hear]
  | cons b t ih => intro K n v; rw [List.cons_append, hear, ih, hear, List.length_cons, show n + 1 + (t.length : Int) = n + ((t.length + 1 : Nat) : Int) by omega]
theorem hear_out (w : Int) : ∀ (L : List Int) (n : Int) (v : Int32), ¬ (n ≤ w ∧ w < n + L.length) → hear w n v L = v := by
  intro L
  induction L with
  | nil => intro n v _; rfl
  | cons b t ih =>
    intro n v h
    rw [List.length_cons] at h
    rw [hear, if_neg (by omega), ih _ _ (by omega)]
theorem hear_in (w : Int) : ∀ (L : List Int) (n : Int) (v : Int32), n ≤ w → w < n + L.length → hear w n v L = iI (L.getD (w - n).toNat 0) := by
  intro L
  induction L with
  | nil => intro n v h1 h2; simp at h2; omega
  | cons b t ih =>
    intro n v h1 h2
    rw [List.length_cons] at h2
    rw [hear]
    by_cases e : n = w
    · rw [if_pos e, hear_out _ _ _ _ (by omega), e, show (w - w).toNat = 0 by omega]; rfl
    · rw [ih _ _ (by omega) (by omega), show (w - n).toNat = (w - (n + 1)).toNat + 1 by omega]; rfl
def zDig (r : Int) : List Int := (if 100 ≤ r then [48 + r / 100] else []) ++ ((if 10 ≤ r then [48 + r / 10 % 10] else []) ++ [48 + r % 10])
def zNumb (a : Int) : List Int := [32] ++ ((if a < 0 then [45] else []) ++ zDig (if a < 0 then -a else a))
/-- a step as it is told -/
def zStp (p : Int × Int × Int) : List Int := zWord p.1.toNat ++ ((if 1 ≤ zNum p.1 then zNumb p.2.1 else []) ++ ((if zNum p.1 = 2 then zNumb p.2.2 else []) ++ [59]))
/-- m steps from i on -/
def zTx (p : Nat → Int × Int × Int) : Nat → Nat → List Int
  | 0, _ => []
  | m + 1, i => zStp (p i) ++ zTx p m (i + 1)
theorem zDig_len (r : Int) : (zDig r).length ≤ 3 := by unfold zDig; split <;> split <;> simp
theorem zNumb_len (r : Int) : (zNumb r).length ≤ 5 := by
  unfold zNumb
  generalize (if r < 0 then -r else r) = s
  have := zDig_len s
  simp only [List.length_append]
  split <;> simp <;> omega
theorem zStp_len (p : Int × Int × Int) : (zStp p).length ≤ 16 := by
  unfold zStp
  have h1 := zWord_len p.1.toNat
  have h2 := zNumb_len p.2.1
  have h3 := zNumb_len p.2.2
  simp only [List.length_append]
  split <;> split <;> simp <;> omega
theorem zTx_len (p : Nat → Int × Int × Int) : ∀ (m i : Nat), (zTx p m i).length ≤ 16 * m := by
  intro m
  induction m with
  | zero => intro i; simp [zTx]
  | succ m ih => intro i; have := ih (i + 1); have := zStp_len (p i); rw [zTx, List.length_append]; omega
theorem iI_divn {a n : Int} (ha : 0 ≤ a ∧ a ≤ 2000000000) (hn : 1 ≤ n ∧ n ≤ 1000000) : iI a / iI n = iI (a / n) := by
  have h1 : 0 ≤ a / n := Int.ediv_nonneg ha.1 (by omega)
  have h2 : a / n ≤ a := Int.ediv_le_self _ ha.1
  apply Int32.toInt_inj.mp
  rw [Int32.toInt_div_of_ne_right, iI_toInt (by omega) (by omega), iI_toInt (by omega) (by omega), iI_toInt (by omega) (by omega), Int.tdiv_eq_ediv_of_nonneg ha.1]
  intro e
  have := congrArg Int32.toInt e
  rw [iI_toInt (by omega) (by omega)] at this
  revert this
  show ¬ n = -1
  omega
section
variable {ρ : Nat → Nat} {h : hS} {q : Nat} {w n : Int} {v : Int32}
/-- the teller: what is wanted, how long the text is yet, what was heard -/
def TS (ρ : Nat → Nat) (h : hS) (q : Nat) (w n : Int) (v : Int32) : Prop := (h_k h q = 10 ∧ ρ q = 13 ∧ q < h_x h) ∧ h_i h q 0 = iI w ∧ h_i h q 1 = iI n ∧ h_i h q 2 = v
def TG (ρ : Nat → Nat) (h : hS) (q : Nat) (w n : Int) (v : Int32) (L : List Int) (r : Option (Unit × hS)) : Prop := ∃ g, r = some ((), g) ∧ tr ρ h (rg 13) ρ g ∧ hm g = hm h ∧ TS ρ g q w (n + L.length) (hear w n v L)
theorem TG.nil (T : TS ρ h q w n v) {r : Option (Unit × hS)} (e : r = some ((), h)) : TG ρ h q w n v [] r := ⟨h, e, tr.rf, rfl, by simp only [List.length_nil, hear]; rw [show n + ((0 : Nat) : Int) = n by omega]; exact T⟩
theorem TG.seq {L K : List Int} {r : Option (Unit × hS)} {f : hS → Option (Unit × hS)} (a : TG ρ h q w n v L r) (b : ∀ g, tr ρ h (rg 13) ρ g → TS ρ g q w (n + L.length) (hear w n v L) → TG ρ g q w (n + L.length) (hear w n v L) K (f g)) : TG ρ h q w n v (L ++ K) (cl r fun _ g => f g) := by
  obtain ⟨g, e1, e2, e3, e4⟩ := a
  obtain ⟨g2, f1, f2, f3, f4⟩ := b g e2 e4
  refine ⟨g2, by rw [e1, cl_s]; exact f1, e2.trans f2, f3.trans e3, ?_⟩
  rw [List.length_append, hear_app, show n + ((L.length + K.length : Nat) : Int) = n + (L.length : Int) + K.length by omega]
  exact f4
theorem put_is (N : Nat) (T : TS ρ h q w n v) (hw : i32 w) (hn : 0 ≤ n ∧ n ≤ 1000000) (b : Int) : TG ρ h q w n v [b] (f_Teller_put N h q (iI b)) := by
  unfold i32 at hw
  obtain ⟨⟨t1, t2, t3⟩, t4, t5, t6⟩ := T
  unfold f_Teller_put f_Teller_put_16
  rw [gI_k (show h_k h q = 9 + 1 from t1), t5, gI_k (show h_k h q = 9 + 1 from t1), t4]
  by_cases e : n = w
  · rw [if_pos (by rw [e]), pI_k (show h_k h q = 9 + 1 from t1), gI_k (show h_k (s_i h q 2 (iI b)) q = 9 + 1 from t1), pI_k (show h_k (s_i h q 2 (iI b)) q = 9 + 1 from t1)]
    refine ⟨_, rfl, (tr_si t2).trans (tr_si t2), rfl, ⟨t1, t2, t3⟩, ?_, ?_, ?_⟩
    · rw [h_i_si, if_pos rfl, h_i_si, if_pos rfl]; unfold upd; rw [if_neg (by decide), if_neg (by decide)]; exact t4
    · rw [h_i_si, if_pos rfl, h_i_si, if_pos rfl]; unfold upd; rw [if_pos rfl, if_neg (by decide), t5, show (1 : Int32) = iI 1 from rfl, iI_add]; rfl
    · rw [h_i_si, if_pos rfl, h_i_si, if_pos rfl]; unfold upd; rw [if_neg (by decide), if_pos rfl]; simp [hear, e]
  · rw [if_neg (fun z => e ((iI_eq (by omega) hw).mp z)), gI_k (show h_k h q = 9 + 1 from t1), pI_k (show h_k h q = 9 + 1 from t1)]
    refine ⟨_, rfl, tr_si t2, rfl, ⟨t1, t2, t3⟩, ?_, ?_, ?_⟩
    · rw [h_i_si, if_pos rfl]; unfold upd; rw [if_neg (by decide)]; exact t4
    · rw [h_i_si, if_pos rfl]; unfold upd; rw [if_pos rfl, t5, show (1 : Int32) = iI 1 from rfl, iI_add]; rfl
    · rw [h_i_si, if_pos rfl]; unfold upd; rw [if_neg (by decide)]; simp [hear, e]; exact t6
/-- one byte, then the rest -/
theorem TG.put (N : Nat) (T : TS ρ h q w n v) (hw : i32 w) (hn : 0 ≤ n ∧ n ≤ 1000000) {b : Int} {K : List Int} {f : Unit → hS → Option (Unit × hS)} (c : ∀ g, tr ρ h (rg 13) ρ g → TS ρ g q w (n + 1) (hear w n v [b]) → TG ρ g q w (n + 1) (hear w n v [b]) K (f () g)) : TG ρ h q w n v ([b] ++ K) (cv h (some q) 9 (fun a => f_Teller_put N h a (iI b)) f) := by
  rw [cv_k (show h_k h q = 9 + 1 from T.1.1)]
  exact TG.seq (put_is N T hw hn b) (f := fun g => f () g) c
theorem TS.k (T : TS ρ h q w n v) : h_k h q = 9 + 1 := T.1.1
theorem TG.one (N : Nat) (T : TS ρ h q w n v) (hw : i32 w) (hn : 0 ≤ n ∧ n ≤ 1000000) (b : Int) : TG ρ h q w n v [b] (cv h (some q) 9 (fun a => f_Teller_put N h a (iI b)) fun _ h2 => some ((), h2)) := TG.put N T hw hn (K := []) (fun g _ t => TG.nil t rfl)
theorem dig_is (N : Nat) (T : TS ρ h q w n v) (hw : i32 w) (hn : 0 ≤ n ∧ n ≤ 900000) {a : Int} (ha : -999 ≤ a ∧ a ≤ 999) : TG ρ h q w n v (zDig (if a < 0 then -a else a)) (f_Teller_putNumber_16 N h q (iI a)) := by
  unfold f_Teller_putNumber_16
  rw [jab_is (by omega), bn_i]
  generalize hr : (if a < 0 then -a else a) = r
  have hr0 : 0 ≤ r ∧ r ≤ 999 := by rw [← hr]; split <;> omega
  have e58 : ∀ {h : hS} {n : Int} {v : Int32}, TS ρ h q w n v → (0 ≤ n ∧ n ≤ 1000000) → TG ρ h q w n v [48 + r % 10] (f_Teller_putNumber_58 N h q (iI r)) := fun T hn => by
    unfold f_Teller_putNumber_58
    rw [dv_ok (by decide), show (10 : Int32) = iI 10 from rfl, show (48 : Int32) = iI 48 from rfl, iI_divn (by omega) (by omega), iI_mul, iI_sub, iI_add, show 48 + (r - r / 10 * 10) = 48 + r % 10 by omega]
    exact TG.one N T hw hn _
  have e38 : ∀ {h : hS} {n : Int} {v : Int32}, TS ρ h q w n v → (0 ≤ n ∧ n ≤ 999999) → TG ρ h q w n v ((if 10 ≤ r then [48 + r / 10 % 10] else []) ++ [48 + r % 10]) (f_Teller_putNumber_38 N h q (iI r)) := fun T hn => by
    unfold f_Teller_putNumber_38
    by_cases h10 : 10 ≤ r
    · rw [if_pos h10, if_neg (show ¬ iI r < (10 : Int32) from fun z => absurd ((iI_lt (b := 10) (by omega) (by omega)).mp z) (by omega)), dv_ok (by decide), dv_ok (by decide), show (10 : Int32) = iI 10 from rfl, show (48 : Int32) = iI 48 from rfl, iI_divn (by omega) (by omega), iI_divn (by omega) (by omega), iI_mul, iI_sub, iI_add, show 48 + (r / 10 - r / 10 / 10 * 10) = 48 + r / 10 % 10 by omega]
      exact TG.put N T hw (by omega) (fun g _ t => e58 t (by omega))
    · rw [if_neg h10, if_pos (show iI r < (10 : Int32) from (iI_lt (b := 10) (by omega) (by omega)).mpr (by omega)), List.nil_append]
      exact e58 T (by omega)
  unfold zDig
  by_cases h100 : 100 ≤ r
  · rw [if_pos h100, if_neg (show ¬ iI r < (100 : Int32) from fun z => absurd ((iI_lt (b := 100) (by omega) (by omega)).mp z) (by omega)), dv_ok (by decide), show (100 : Int32) = iI 100 from rfl, show (48 : Int32) = iI 48 from rfl, iI_divn (by omega) (by omega), iI_add]
    exact TG.put N T hw (by omega) (fun g _ t => e38 t (by omega))
  · rw [if_neg h100, if_pos (show iI r < (100 : Int32) from (iI_lt (b := 100) (by omega) (by omega)).mpr (by omega)), List.nil_append]
    exact e38 T (by omega)
theorem numb_is (N : Nat) (T : TS ρ h q w n v) (hw : i32 w) (hn : 0 ≤ n ∧ n ≤ 800000) {a : Int} (ha : -999 ≤ a ∧ a ≤ 999) : TG ρ h q w n v (zNumb a) (f_Teller_putNumber N h q (iI a)) := by
  unfold f_Teller_putNumber zNumb
  rw [show (32 : Int32) = iI 32 from rfl, show (45 : Int32) = iI 45 from rfl]
  refine TG.put N T hw (by omega) (fun g _ t => ?_)
  by_cases h0 : a < 0
  · rw [if_pos h0, if_neg (show ¬ (0 : Int32) ≤ iI a from fun z => absurd ((iI_le (a := 0) (by omega) (by omega)).mp z) (by omega))]
    refine TG.put N t hw (by omega) (fun g2 _ t2 => ?_)
    exact dig_is N t2 hw (by omega) ha
  · rw [if_neg h0, if_pos (show (0 : Int32) ≤ iI a from (iI_le (a := 0) (by omega) (by omega)).mpr (by omega)), List.nil_append]
    exact dig_is N t hw (by omega) ha
theorem nums_cl (N : Nat) (C : CN ρ h) {k : Int} (hk : 0 ≤ k ∧ k ≤ 8) {β : Type} (f : Int32 → hS → Option β) : cl (f_K_numbersOf N h (iI k)) f = f (iI (zNum k)) h := by rw [nums_is N C hk, cl_s]
theorem zNum_rng (k : Int) : 0 ≤ zNum k ∧ zNum k ≤ 2 := by
  unfold zNum
  split
  · omega
  · split <;> omega
theorem st_57 (N : Nat) {st : Nat} {p : Int × Int × Int} {Y : Nat → Int} (C : CN ρ h) (S : ST ρ h st p Y) (ha : zNum p.1 = 2 → -999 ≤ p.2.2 ∧ p.2.2 ≤ 999) (T : TS ρ h q w n v) (hw : i32 w) (hn : 0 ≤ n ∧ n ≤ 700000) : TG ρ h q w n v ((if zNum p.1 = 2 then zNumb p.2.2 else []) ++ [59]) (f_Teller_putStep_57 N h q (some st)) := by
  have hk := S.2.2.1.1
  unfold f_Teller_putStep_57 f_Teller_putStep_76
  rw [gI_k (show h_k h st = 8 + 1 from S.1.1), S.2.1.1, nums_cl N C hk, show (59 : Int32) = iI 59 from rfl]
  by_cases e : zNum p.1 = 2
  · rw [if_pos e, if_pos (show iI (zNum p.1) = (2 : Int32) by rw [e]; rfl), gI_k (show h_k h st = 8 + 1 from S.1.1), S.2.1.2.2, cv_k T.k]
    have := zNumb_len p.2.2
    exact TG.seq (numb_is N T hw (by omega) (ha e)) (f := fun g => cv g (some q) 9 (fun a => f_Teller_put N g a (iI 59)) fun _ h2 => some ((), h2)) (fun g _ t => TG.one N t hw (by omega) 59)
  · rw [if_neg e, if_neg (show ¬ iI (zNum p.1) = (2 : Int32) from fun z => e ((iI_eq (b := 2) (by have := zNum_rng p.1; omega) (by omega)).mp z)), List.nil_append]
    exact TG.one N T hw (by omega) 59
theorem st_loop (N : Nat) {st : Nat} {p : Int × Int × Int} {Y : Nat → Int} (ha : 1 ≤ zNum p.1 → -999 ≤ p.2.1 ∧ p.2.1 ≤ 999) (hb : zNum p.1 = 2 → -999 ≤ p.2.2 ∧ p.2.2 ≤ 999) (hw : i32 w) {r : Option Nat} : ∀ (m i : Nat) (h : hS) (n : Int) (v : Int32) (fuel : Nat), i + m = (zWord p.1.toNat).length → CN ρ h → ST ρ h st p Y → WD ρ h r (zWord p.1.toNat) → TS ρ h q w n v → (0 ≤ n ∧ n + m ≤ 600000) → TG ρ h q w n v ((zWord p.1.toNat).drop i ++ ((if 1 ≤ zNum p.1 then zNumb p.2.1 else []) ++ ((if zNum p.1 = 2 then zNumb p.2.2 else []) ++ [59]))) (f_Teller_putStep_15 N (m + (fuel + 1)) h q (some st) r (iI i)) := by
  intro m
  have hl := zWord_len p.1.toNat
  have hr := zWord_rng p.1.toNat
  have hz := zNum_rng p.1
  induction m with
  | zero =>
    intro i h n v fuel hi C S W T hn
    have hk := S.2.2.1.1
    rw [Nat.zero_add]
    unfold f_Teller_putStep_15
    rw [W.len N, if_pos ((iI_le (by omega) (by omega)).mpr (by omega)), gI_k (show h_k h st = 8 + 1 from S.1.1), S.2.1.1, nums_cl N C hk, List.drop_eq_nil_of_le (by omega), List.nil_append]
    by_cases e : 1 ≤ zNum p.1
    · rw [if_pos e, if_neg (show ¬ iI (zNum p.1) < (1 : Int32) from fun z => absurd ((iI_lt (b := 1) (by omega) (by omega)).mp z) (by omega)), gI_k (show h_k h st = 8 + 1 from S.1.1), S.2.1.2.1, cv_k T.k]
      have := zNumb_len p.2.1
      exact TG.seq (numb_is N T hw (by omega) (ha e)) (f := fun g => f_Teller_putStep_57 N g q (some st)) (fun g tg t => st_57 N (C.keep tg (by intro z; cases z)) (S.keep tg (by intro z; cases z)) hb t hw (by omega))
    · rw [if_neg e, if_pos (show iI (zNum p.1) < (1 : Int32) from (iI_lt (b := 1) (by omega) (by omega)).mpr (by omega)), List.nil_append]
      exact st_57 N C S hb T hw (by omega)
  | succ m ih =>
    intro i h n v fuel hi C S W T hn
    have hic : i < (zWord p.1.toNat).length := by omega
    rw [show m + 1 + (fuel + 1) = (m + (fuel + 1)) + 1 by omega]
    unfold f_Teller_putStep_15
    rw [W.len N, if_neg (fun z => absurd ((iI_le (by omega) (by omega)).mp z) (by omega)), W.at N (fun e he => by have := hr e he; omega) (by omega) hic, List.drop_eq_getElem_cons hic]
    refine TG.put N T hw (by omega) (K := (zWord p.1.toNat).drop (i + 1) ++ ((if 1 ≤ zNum p.1 then zNumb p.2.1 else []) ++ ((if zNum p.1 = 2 then zNumb p.2.2 else []) ++ [59]))) (fun g tg t => ?_)
    rw [bn_i, show (1 : Int32) = iI 1 from rfl, iI_add, show (i : Int) + 1 = ((i + 1 : Nat) : Int) by omega]
    exact ih (i + 1) g _ _ fuel (by omega) (C.keep tg (by intro z; cases z)) (S.keep tg (by intro z; cases z)) (W.keep tg (by intro z; cases z)) t (by omega)
theorem putStep_is (N : Nat) (hN : 100 ≤ N) {st : Nat} {p : Int × Int × Int} {Y : Nat → Int} (ha : 1 ≤ zNum p.1 → -999 ≤ p.2.1 ∧ p.2.1 ≤ 999) (hb : zNum p.1 = 2 → -999 ≤ p.2.2 ∧ p.2.2 ≤ 999) (hw : i32 w) (C : CN ρ h) (S : ST ρ h st p Y) (T : TS ρ h q w n v) (hn : 0 ≤ n ∧ n ≤ 500000) : TG ρ h q w n v (zStp p) (f_Teller_putStep N h q (some st)) := by
  have hk := S.2.2.1.1
  have hl := zWord_len p.1.toNat
  obtain ⟨r, r1, r2⟩ := word_is N C (k := p.1.toNat) (by omega)
  rw [show ((p.1.toNat : Nat) : Int) = p.1 by omega] at r1
  obtain ⟨fuel, hfu⟩ : ∃ fuel, N = (zWord p.1.toNat).length + (fuel + 1) := ⟨N - (zWord p.1.toNat).length - 1, by omega⟩
  have := st_loop N ha hb hw (zWord p.1.toNat).length 0 h n v fuel (by omega) C S r2 T (by omega)
  rw [← hfu, List.drop_zero] at this
  unfold f_Teller_putStep
  rw [if_neg (by simp), gI_k (show h_k h st = 8 + 1 from S.1.1), S.2.1.1, r1, cl_s]
  exact this
end
section
variable {ρ : Nat → Nat} {h : hS} {Q : Nat → Nat} {F : FT} {ks : List Nat} {α : Type}
theorem KE.any {a a' : α} {k : Int32} {r : Option ((α ⊕ Nat) × hS)} (E : KE ρ h Q F ks a k r) (e : k = 0 → a = a') : KE ρ h Q F ks a' k r := by
  obtain ⟨ρ2, g2, e1, e2, e3, e4⟩ := E
  refine ⟨ρ2, g2, ?_, e2, e3, e4⟩
  rw [e1]
  unfold oc
  by_cases hk : k = 0
  · rw [if_pos hk, if_pos hk, e hk]
  · rw [if_neg hk, if_neg hk]
theorem KS.t13 (K : KS ρ h Q F ks) {g : hS} (t : tr ρ h (rg 13) ρ g) (hmm : hm g = hm h) : KS ρ g Q F ks ∧ tr ρ h RA ρ g ∧ hm g + brs g (Q 4) ≤ hm h + brs h (Q 4) := by
  obtain ⟨k1, k2⟩ := K.ask0 t (fun q hq => by have : q = 13 := hq; unfold RA RB; omega)
  exact ⟨k1, t.mono (fun q hq => by have : q = 13 := hq; unfold RA; omega), by rw [k2, hmm]; exact Nat.le_refl _⟩
theorem okArg_n {p : Int × Int × Int} {Y : Nat → Int} (ok : okArg p.1 p.2.1 p.2.2) (h8 : p.1 = 8 → zInv Y ∧ 0 ≤ p.2.1 ∧ p.2.1 ≤ 3) : (1 ≤ zNum p.1 → -999 ≤ p.2.1 ∧ p.2.1 ≤ 999) ∧ (zNum p.1 = 2 → -999 ≤ p.2.2 ∧ p.2.2 ≤ 999) := by
  obtain ⟨o1, o2, o3, o4, o5⟩ := ok
  unfold zNum
  constructor
  · intro z
    rcases (show p.1 ≤ 2 ∨ p.1 = 3 ∨ p.1 = 4 ∨ p.1 = 5 ∨ p.1 = 6 ∨ p.1 = 7 ∨ p.1 = 8 by omega) with e | e | e | e | e | e | e
    · have := o2 e; omega
    · have := o3 e; omega
    · have := o4 e; omega
    · rw [e] at z; simp at z
    · rw [e] at z; simp at z
    · have := o5 e; omega
    · have := h8 e; omega
  · intro z
    rcases (show p.1 ≤ 2 ∨ p.1 = 3 ∨ p.1 = 4 ∨ p.1 = 5 ∨ p.1 = 6 ∨ p.1 = 7 ∨ p.1 = 8 by omega) with e | e | e | e | e | e | e
    · have := o2 e; omega
    · rw [e] at z; simp at z
    · have := o4 e; omega
    · rw [e] at z; simp at z
    · rw [e] at z; simp at z
    · rw [e] at z; simp at z
    · rw [e] at z; simp at z
theorem told_loop (N : Nat) (hN : 20000 ≤ N) {c : Int} (c1 : 0 ≤ c ∧ c ≤ 3) {w : Int} (hw : i32 w) : ∀ (m : Nat) (h : hS) (i : Nat) (n : Int) (v : Int32) (fuel : Nat), i + m = (F.1.1 c.toNat).1 → KS ρ h Q F ks → CN ρ h → TS ρ h (Q 7) w n v → (0 ≤ n ∧ n + 16 * m ≤ 5000) → KE ρ h Q F ks (if w = -1 then iI (n + (zTx (F.1.1 c.toNat).2.1 m i).length) else hear w n v (zTx (F.1.1 c.toNat).2.1 m i)) (if w = -1 ∨ (0 ≤ w ∧ w < n + (zTx (F.1.1 c.toNat).2.1 m i).length) then 0 else 1) (f_K_told_17 N (m + (fuel + 1)) h (Q 0) (iI w) (some (Q (40 + c.toNat))) (iI i)) := by
  intro m
  unfold i32 at hw
  induction m with
  | zero =>
    intro h i n v fuel hi K C T hn
    have ch := K.ch c1
    have h40 := ch.sz.2
    have r7 := K.ref (i := 0) (k := 7) (j := 7) (by decide)
    rw [Nat.zero_add, zTx]
    simp only [List.length_nil, hear, show n + ((0 : Nat) : Int) = n by omega]
    unfold f_K_told_17 f_K_told_77 f_K_told_78 f_K_told_81
    rw [gI_k ch.k, ch.sz.1, if_pos ((iI_le (by omega) (by omega)).mpr (by omega)), gR_k K.x.1, r7, gI_k T.k, T.2.2.1]
    by_cases e : w = -1
    · rw [if_pos e, if_pos (Or.inl e), if_pos (show iI w = (-1 : Int32) by rw [e]; rfl)]
      exact KE.ok K rfl
    · rw [if_neg e, if_neg (show ¬ iI w = (-1 : Int32) from fun z => e ((iI_eq (b := -1) hw (by omega)).mp z))]
      by_cases w0 : w < 0
      · rw [if_pos (show iI w < (0 : Int32) from (iI_lt (b := 0) hw (by omega)).mpr w0), such_0, clT_r, if_neg (by omega)]
        exact KE.t1 K rfl
      · rw [if_neg (show ¬ iI w < (0 : Int32) from fun z => w0 ((iI_lt (b := 0) hw (by omega)).mp z)), gR_k K.x.1, r7, gI_k T.k, T.2.2.1]
        by_cases wn : n ≤ w
        · rw [if_pos ((iI_le (by omega) hw).mpr wn), such_0, clT_r, if_neg (by omega)]
          exact KE.t1 K rfl
        · rw [if_neg (fun z => wn ((iI_le (by omega) hw).mp z)), such_1, clT_l, gR_k K.x.1, r7, gI_k T.k, T.2.2.2, if_pos (by omega)]
          exact KE.ok K rfl
  | succ m ih =>
    intro h i n v fuel hi K C T hn
    have ch := K.ch c1
    have h40 := ch.sz.2
    have r7 := K.ref (i := 0) (k := 7) (j := 7) (by decide)
    have vv := (K.v c1).2.1 i (by omega)
    obtain ⟨st, s1, s2⟩ := stepAt_in N ch (i := i) (by omega)
    obtain ⟨o1, o2⟩ := okArg_n vv.1 vv.2
    obtain ⟨g, g1, g2, g3, g4⟩ := putStep_is N (by omega) o1 o2 hw C s2 T (by omega)
    obtain ⟨K1, T1, m1⟩ := K.t13 g2 g3
    have := zStp_len ((F.1.1 c.toNat).2.1 i)
    rw [show m + 1 + (fuel + 1) = (m + (fuel + 1)) + 1 by omega]
    generalize hR : f_K_told_17 N (m + (fuel + 1)) = R
    unfold f_K_told_17
    rw [hR, gI_k ch.k, ch.sz.1, if_neg (fun z => absurd ((iI_le (by omega) (by omega)).mp z) (by omega)), gR_k K.x.1, r7, cv_k ch.k, s1, cl_s, cv_k T.k, g1, cl_s, bn_i, show (1 : Int32) = iI 1 from rfl, iI_add, show (i : Int) + 1 = ((i + 1 : Nat) : Int) by omega, ← hR, zTx, hear_app, List.length_append, show n + (((zStp ((F.1.1 c.toNat).2.1 i)).length + (zTx (F.1.1 c.toNat).2.1 m (i + 1)).length : Nat) : Int) = n + (zStp ((F.1.1 c.toNat).2.1 i)).length + (zTx (F.1.1 c.toNat).2.1 m (i + 1)).length by omega]
    exact KE.go T1 m1 (ih g (i + 1) _ _ fuel (by omega) K1 (C.keep g2 (by intro z; cases z)) g4 (by omega))
theorem listen_is (N : Nat) (K : KS ρ h Q F ks) (w : Int) : ∃ g, f_Teller_listenFor N h (Q 7) (iI w) = some ((), g) ∧ tr ρ h (rg 13) ρ g ∧ hm g = hm h ∧ TS ρ g (Q 7) w 0 0 := by
  have h7 := K.1.1 (7, 10, 13, 0) (by decide)
  have e7 : h_k h (Q 7) = 9 + 1 := h7.1
  unfold f_Teller_listenFor
  rw [pI_k e7, pI_k (show h_k (s_i h (Q 7) 0 (iI w)) (Q 7) = 9 + 1 from e7), pI_k (show h_k (s_i (s_i h (Q 7) 0 (iI w)) (Q 7) 1 0) (Q 7) = 9 + 1 from e7)]
  refine ⟨_, rfl, ((tr_si h7.2.1).trans (tr_si h7.2.1)).trans (tr_si h7.2.1), rfl, ⟨h7.1, h7.2.1, h7.2.2.2⟩, ?_, ?_, ?_⟩
  all_goals
    rw [h_i_si, if_pos rfl, h_i_si, if_pos rfl, h_i_si, if_pos rfl]
    rfl
/-- what is told of a cost -/
def zTold (C : Cs) (c : Nat) : List Int := zTx (C c).2.1 (C c).1 0
theorem told_K (N : Nat) (hN : 20000 ≤ N) (K : KS ρ h Q F ks) (C : CN ρ h) {c w : Int} (hc : i32 c) (hw : i32 w) : KE ρ h Q F ks (if (0 ≤ c ∧ c ≤ 3) ∧ (w = -1 ∨ (0 ≤ w ∧ w < (zTold F.1.1 c.toNat).length)) then iI (if w = -1 then (zTold F.1.1 c.toNat).length else (zTold F.1.1 c.toNat).getD w.toNat 0) else 0) (if (0 ≤ c ∧ c ≤ 3) ∧ (w = -1 ∨ (0 ≤ w ∧ w < (zTold F.1.1 c.toNat).length)) then 0 else 1) (f_K_told N h (Q 0) (iI c) (iI w)) := by
  unfold f_K_told f_K_told_5
  by_cases c1 : 0 ≤ c ∧ c ≤ 3
  · obtain ⟨g, g1, g2, g3, g4⟩ := listen_is N K w
    obtain ⟨K1, T1, m1⟩ := K.t13 g2 g3
    have h40 := (K.ch c1).sz.2
    obtain ⟨fuel, hfu⟩ : ∃ fuel, N = (F.1.1 c.toNat).1 + (fuel + 1) := ⟨N - (F.1.1 c.toNat).1 - 1, by omega⟩
    have e7 : h_k h (Q 7) = 9 + 1 := (K.1.1 (7, 10, 13, 0) (by decide)).1
    have := told_loop N hN c1 hw (F.1.1 c.toNat).1 g 0 0 0 fuel (by omega) K1 (C.keep g2 (by intro z; cases z)) g4 (by omega)
    rw [← hfu, Int.zero_add] at this
    rw [cvT_k K.x.1, chain_y N K c1, clT_l, gR_k K.x.1, K.ref (i := 0) (k := 7) (j := 7) (by decide), cv_k e7, g1, cl_s]
    refine KE.go T1 m1 ?_
    have hL : zTold F.1.1 c.toNat = zTx (F.1.1 c.toNat).2.1 (F.1.1 c.toNat).1 0 := rfl
    rw [← hL] at this
    have ek : (if (0 ≤ c ∧ c ≤ 3) ∧ (w = -1 ∨ (0 ≤ w ∧ w < (zTold F.1.1 c.toNat).length)) then (0 : Int32) else 1) = (if w = -1 ∨ (0 ≤ w ∧ w < (zTold F.1.1 c.toNat).length) then 0 else 1) := by
      by_cases z : w = -1 ∨ (0 ≤ w ∧ w < (zTold F.1.1 c.toNat).length)
      · rw [if_pos z, if_pos ⟨c1, z⟩]
      · rw [if_neg z, if_neg (fun y => z y.2)]
    rw [ek]
    refine this.any (fun k0 => ?_)
    by_cases z : w = -1 ∨ (0 ≤ w ∧ w < (zTold F.1.1 c.toNat).length)
    · rw [if_pos (show (0 ≤ c ∧ c ≤ 3) ∧ (w = -1 ∨ (0 ≤ w ∧ w < (zTold F.1.1 c.toNat).length)) from ⟨c1, z⟩)]
      by_cases e : w = -1
      · rw [if_pos e, if_pos e]
      · rw [if_neg e, if_neg e, hear_in _ _ _ _ (by omega) (by omega), show w - 0 = w by omega]
    · rw [if_neg z] at k0; exact absurd k0 (by decide)
  · rw [cvT_k K.x.1, chain_n N h _ hc c1, clT_r, if_neg (fun q => c1 q.1), if_neg (fun q => c1 q.1)]
    exact KE.t1 K rfl
end
