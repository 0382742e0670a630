/-! THE REFERENCE: does; its reader's tokens -/
section
variable {ρ : Nat → Nat} {A : Nat → Nat} {m : Nat} {h g u : hS} {F F' : FT}
theorem does_M (N : Nat) (hN : 30000 ≤ N) (X : RM ρ A m h F) {c kd a b : Int} (hc : i32 c) (hk : i32 kd) (ha : i32 a) (hb : i32 b) : (doOk F.1.1 c kd a b → RX ρ A m h (iI (((F.1.1 c.toNat).1 + 1 : Nat) : Int)) (actS F.1 c.toNat (putX F.1.1 c.toNat (F.1.1 c.toNat).1 kd a b), F.2) 0 (f_M_does N h m (iI c) (iI kd) (iI a) (iI b))) ∧ (¬ doOk F.1.1 c kd a b → RX ρ A m h (-1 : Int32) (rfS F.1 1, F.2) 0 (f_M_does N h m (iI c) (iI kd) (iI a) (iI b))) := by
  have M := X.1.1
  by_cases h1 : 0 ≤ c ∧ c ≤ 3
  · obtain ⟨n1, n2⟩ := n4 h1
    have st := stepsM N X n1
    rw [n2] at st
    have h40 := (X.2.2.2.2.1.2.1 c.toNat n1).1
    have hi : i32 ((F.1.1 c.toNat).1 : Int) := by unfold i32; omega
    obtain ⟨p1, p2⟩ := puts_M N hN X (i := ((F.1.1 c.toNat).1 : Int)) hc hi hk ha hb
    have e0 : f_M_does N h m (iI c) (iI kd) (iI a) (iI b) = cl (f_M_puts N h m (iI c) (iI ((F.1.1 c.toNat).1 : Int)) (iI kd) (iI a) (iI b)) fun v7 h8 => some (v7, h8) := by
      unfold f_M_does f_M_does_22 f_M_does_35
      rw [cv_at M, isCost_y N _ _ h1, cl_s, if_neg (by decide), cv_at M, st, cl_s, cv_at M]
    have ok : doOk F.1.1 c kd a b ↔ putOk F.1.1 c ((F.1.1 c.toNat).1 : Int) kd a b := by
      unfold doOk putOk
      rw [Int.toNat_natCast]
      exact ⟨fun z => ⟨z.1, ⟨by omega, Int.le_refl _⟩, z.2⟩, fun z => ⟨z.1, z.2.2⟩⟩
    rw [e0]
    constructor
    · intro q
      obtain ⟨ρ', u, u1, u2⟩ := p1 (ok.mp q)
      rw [Int.toNat_natCast] at u2
      exact ⟨ρ', u, by rw [u1, cl_s], u2⟩
    · intro q
      obtain ⟨ρ', u, u1, u2⟩ := p2 (fun z => q (ok.mpr z))
      exact ⟨ρ', u, by rw [u1, cl_s], u2⟩
  · refine ⟨fun q => absurd q.1.1 h1, fun _ => ?_⟩
    have hi : i32 (0 : Int) := by unfold i32; omega
    obtain ⟨_, p2⟩ := puts_M N hN X (i := 0) hc hi hk ha hb
    obtain ⟨ρ', u, u1, u2⟩ := p2 (fun z => h1 z.1.1)
    refine ⟨ρ', u, ?_, u2⟩
    unfold f_M_does f_M_does_35
    rw [cv_at M, isCost_n N _ _ hc h1, cl_s, if_pos rfl, cv_at M]
    refine (show cl (f_M_puts N h m (iI c) (iI 0) (iI kd) (iI a) (iI b)) (fun v3 h4 => some (v3, h4)) = _ from ?_)
    rw [u1, cl_s]
/-! the reader of the reference: all it writes are fields of the object; the heap is s_w h m U -/
variable {B : Nat → Int} {n : Nat} {U : Nat → Int32} {β : Type}
def TQ (A : Nat → Nat) (m : Nat) (h : hS) (B : Nat → Int) (n : Nat) : Prop := MO A m h ∧ n ≤ 600 ∧ (∀ i, i < n → h_i h (A 17) i = iI (B i)) ∧ ∀ i, i < n → 0 ≤ B i ∧ B i ≤ 255
theorem gI_u (M : MO A m h) {k : Nat} {f : Int32 → Option β} : gI (s_w h m U) (some m) 0 k f = f (U k) := by
  rw [gI_at (M.sw m U), h_i_sw, if_pos rfl]
theorem pI_u (M : MO A m h) {k : Nat} {v : Int32} {f : hS → Option β} : pI (s_w h m U) (some m) 0 k v f = f (s_w h m (upd U k v)) := by
  rw [pI_at (M.sw m U), s_w_i]
theorem cv_u (M : MO A m h) {α : Type} {f : Nat → Option (α × hS)} {k : α → hS → Option β} : cv (s_w h m U) (some m) 0 f k = cl (f m) k := cv_at (M.sw m U)
def bt (B : Nat → Int) (n i : Nat) : Int := if i < n then B i else -1
theorem bt_rng (T : TQ A m h B n) (i : Nat) : -1 ≤ bt B n i ∧ bt B n i ≤ 255 := by
  unfold bt
  split
  · rename_i z; have := T.2.2.2 i z; omega
  · omega
theorem byteAt_u (N : Nat) (T : TQ A m h B n) (hU : U 22 = iI n) {i : Nat} (hi : i ≤ n) : f_M_byteAt N (s_w h m U) m (iI i) = some (iI (bt B n i), s_w h m U) := by
  have h6 := T.2.1
  have m17 : (17, 50, 600) ∈ mrows := by decide
  unfold f_M_byteAt
  rw [gI_u T.1, hU]
  unfold bt
  by_cases e : i < n
  · rw [if_neg (show ¬ iI (n : Int) ≤ iI (i : Int) from fun z => by have := (iI_le (by omega) (by omega)).mp z; omega), if_pos e, gR_at (T.1.sw m U) m17, aI_iI (z := (i : Int)) ((T.1.sw m U).ro (i := 17) (n := 600) m17) (by omega) (by omega) (by omega), Int.toNat_natCast, h_i_sw, if_neg (T.1.ne m17 (by decide)), T.2.2.1 i e]
    rfl
  · rw [if_pos (show iI (n : Int) ≤ iI (i : Int) from (iI_le (by omega) (by omega)).mpr (by omega)), if_neg e]
    rfl
theorem isLetter_i (N : Nat) (h : hS) {c : Int} (hc : -1 ≤ c ∧ c ≤ 255) : f_M_isLetter N h (iI c) = some (if zkd c = 1 then 1 else 0, h) := by
  have lt := iI_lt (a := c) (b := 97) (by omega) (by omega)
  have gt := iI_lt (a := 122) (b := c) (by omega) (by omega)
  unfold f_M_isLetter f_M_isLetter_16 f_M_isLetter_17
  by_cases h1 : c < 97
  · rw [if_pos (show iI c < (97 : Int32) from lt.mpr h1), bz_0, if_neg (show ¬ zkd c = 1 by unfold zkd; rw [if_neg (by omega)]; repeat' split; all_goals omega)]
  · rw [if_neg (show ¬ iI c < (97 : Int32) from fun z => h1 (lt.mp z))]
    by_cases h2 : 122 < c
    · rw [if_pos (show (122 : Int32) < iI c from gt.mpr h2), bz_0, if_neg (show ¬ zkd c = 1 by unfold zkd; rw [if_neg (by omega)]; repeat' split; all_goals omega)]
    · rw [if_neg (show ¬ (122 : Int32) < iI c from fun z => h2 (gt.mp z)), bz_1, if_pos (show zkd c = 1 by unfold zkd; rw [if_pos (by omega)])]
theorem isDigit_i (N : Nat) (h : hS) {c : Int} (hc : -1 ≤ c ∧ c ≤ 255) : f_M_isDigit N h (iI c) = some (if zkd c = 2 then 1 else 0, h) := by
  have lt := iI_lt (a := c) (b := 48) (by omega) (by omega)
  have gt := iI_lt (a := 57) (b := c) (by omega) (by omega)
  unfold f_M_isDigit f_M_isDigit_16 f_M_isDigit_17
  by_cases h1 : c < 48
  · rw [if_pos (show iI c < (48 : Int32) from lt.mpr h1), bz_0, if_neg (show ¬ zkd c = 2 by unfold zkd; rw [if_neg (by omega), if_neg (by omega)]; split <;> omega)]
  · rw [if_neg (show ¬ iI c < (48 : Int32) from fun z => h1 (lt.mp z))]
    by_cases h2 : 57 < c
    · rw [if_pos (show (57 : Int32) < iI c from gt.mpr h2), bz_0, if_neg (show ¬ zkd c = 2 by unfold zkd; repeat' split; all_goals omega)]
    · rw [if_neg (show ¬ (57 : Int32) < iI c from fun z => h2 (gt.mp z)), bz_1, if_pos (show zkd c = 2 by unfold zkd; rw [if_neg (by omega), if_pos (by omega)])]
theorem s218_u (N : Nat) (M : MO A m h) : f_M_stepOn_218 N (s_w h m U) m = some ((), s_w h m (upd U 26 (U 21))) := by
  unfold f_M_stepOn_218
  rw [gI_u M, pI_u M]
/-- fields that a token is written to -/
abbrev tkF : List Nat := [21, 23, 24, 25, 26]
theorem step76 (N : Nat) (T : TQ A m h B n) : ∀ (q i : Nat) (U : Nat → Int32) (fuel : Nat), i + q = n → U 21 = iI i → U 22 = iI n → ∃ V, f_M_stepOn_76 N (q + (fuel + 1)) (s_w h m U) m = some ((), s_w h m V) ∧ (∀ k, k ≠ 21 → k ≠ 23 → k ≠ 26 → V k = U k) ∧ V 21 = iI (zrn B 1 q i) ∧ V 23 = iI 1 ∧ V 26 = iI (zrn B 1 q i) := by
  have h6 := T.2.1
  have stop : ∀ (U : Nat → Int32) (i fuel : Nat), i ≤ n → U 21 = iI i → U 22 = iI n → ¬ zkd (bt B n i) = 1 → f_M_stepOn_76 N (fuel + 1) (s_w h m U) m = some ((), s_w h m (upd (upd U 23 1) 26 (iI i))) := fun U i fuel hi h1 h2 hk => by
    unfold f_M_stepOn_76
    rw [gI_u T.1, h1, cv_u T.1, byteAt_u N T h2 hi, cl_s, isLetter_i N _ (bt_rng T i), cl_s, if_neg hk, if_pos rfl, pI_u T.1, s218_u N T.1, upd_o (by decide), h1]
  have stop' : ∀ (U : Nat → Int32) (i fuel : Nat), i ≤ n → U 21 = iI i → U 22 = iI n → ¬ zkd (bt B n i) = 1 → ∃ V, f_M_stepOn_76 N (fuel + 1) (s_w h m U) m = some ((), s_w h m V) ∧ (∀ k, k ≠ 21 → k ≠ 23 → k ≠ 26 → V k = U k) ∧ V 21 = iI i ∧ V 23 = iI 1 ∧ V 26 = iI i := fun U i fuel hi h1 h2 hk => ⟨_, stop U i fuel hi h1 h2 hk, fun k k1 k2 k3 => by rw [upd_o k3, upd_o k2], by rw [upd_o (by decide), upd_o (by decide), h1], by rw [upd_o (by decide), upd_a]; rfl, by rw [upd_a]⟩
  intro q
  induction q with
  | zero =>
    intro i U fuel hq h1 h2
    rw [zrn, Nat.zero_add]
    exact stop' U i fuel (by omega) h1 h2 (by unfold bt; rw [if_neg (by omega)]; decide)
  | succ q ih =>
    intro i U fuel hq h1 h2
    rw [zrn]
    have eb : bt B n i = B i := by unfold bt; rw [if_pos (by omega)]
    by_cases e : zkd (B i) = 1
    · rw [if_pos e]
      have e1 : iI (i : Int) + (1 : Int32) = iI ((i + 1 : Nat) : Int) := by rw [show (1 : Int32) = iI 1 from rfl, iI_add]; rfl
      obtain ⟨V, v1, v2, v3⟩ := ih (i + 1) (upd U 21 (iI ((i + 1 : Nat) : Int))) fuel (by omega) (upd_a _ _ _) (by rw [upd_o (by decide), h2])
      refine ⟨V, ?_, fun k k1 k2 k3 => by rw [v2 k k1 k2 k3, upd_o k1], v3⟩
      rw [show q + 1 + (fuel + 1) = (q + (fuel + 1)) + 1 by omega]
      conv => lhs; unfold f_M_stepOn_76
      rw [gI_u T.1, h1, cv_u T.1, byteAt_u N T h2 (by omega), cl_s, isLetter_i N _ (bt_rng T i), cl_s, eb, if_pos e, if_neg (by decide), gI_u T.1, h1, pI_u T.1, e1]
      exact v1
    · rw [if_neg e, show q + 1 + (fuel + 1) = (q + 1 + fuel) + 1 by omega]
      exact stop' U i _ (by omega) h1 h2 (by rw [eb]; exact e)
/-- digits, as the reference counts them: never above 100000 -/
def zdc (B : Nat → Int) : Nat → Nat → Int → Int
  | 0, _, v => v
  | q + 1, i, v => if zkd (B i) = 2 then zdc B q (i + 1) (if 10 * v + B i - 48 < 100000 then 10 * v + B i - 48 else 100000) else v
theorem zkd2 {c : Int} (h : zkd c = 2) : 48 ≤ c ∧ c ≤ 57 := by
  unfold zkd at h
  split at h
  · omega
  · split at h
    · assumption
    · split at h <;> omega
theorem zdc_eq (B : Nat → Int) : ∀ (q i d : Nat) (v : Int), 0 ≤ v → v + 1 ≤ (if d = 0 then 1 else if d = 1 then 10 else if d = 2 then 100 else 1000) → d + (zrn B 2 q i - i) ≤ 3 → zdc B q i v = zdg B (zrn B 2 q i - i) i v := by
  intro q
  induction q with
  | zero => intro i d v _ _ _; rw [zdc, zrn, Nat.sub_self, zdg]
  | succ q ih =>
    intro i d v h0 h1 h2
    rw [zrn] at h2 ⊢
    rw [zdc]
    by_cases e : zkd (B i) = 2
    · rw [if_pos e] at h2 ⊢
      rw [if_pos e]
      have hb := zkd2 e
      have hr := zrn_rng B 2 q (i + 1)
      have hd : d ≤ 2 := by omega
      have hv : v + 1 ≤ 100 := by
        rcases (show d = 0 ∨ d = 1 ∨ d = 2 by omega) with z | z | z <;> subst z <;> simp at h1 <;> omega
      rw [if_pos (show 10 * v + B i - 48 < 100000 by omega), ih (i + 1) (d + 1) _ (by omega) (by
        rcases (show d = 0 ∨ d = 1 ∨ d = 2 by omega) with z | z | z <;> subst z <;> simp at h1 ⊢ <;> omega) (by omega), show zrn B 2 q (i + 1) - i = (zrn B 2 q (i + 1) - (i + 1)) + 1 by omega, zdg]
    · rw [if_neg e] at h2 ⊢
      rw [if_neg e, Nat.sub_self, zdg]
theorem step123 (N : Nat) (T : TQ A m h B n) : ∀ (q i : Nat) (v : Int) (U : Nat → Int32) (fuel : Nat), i + q = n → U 21 = iI i → U 22 = iI n → U 24 = iI v → (0 ≤ v ∧ v ≤ 100000) → ∃ V, f_M_stepOn_123 N (q + (fuel + 1)) (s_w h m U) m = some ((), s_w h m V) ∧ (∀ k, k ≠ 21 → k ≠ 23 → k ≠ 24 → k ≠ 26 → V k = U k) ∧ V 21 = iI (zrn B 2 q i) ∧ V 23 = iI 2 ∧ V 26 = iI (zrn B 2 q i) ∧ V 24 = iI (zdc B q i v) := by
  have h6 := T.2.1
  have stop' : ∀ (U : Nat → Int32) (i : Nat) (v : Int) (fuel : Nat), i ≤ n → U 21 = iI i → U 22 = iI n → U 24 = iI v → ¬ zkd (bt B n i) = 2 → ∃ V, f_M_stepOn_123 N (fuel + 1) (s_w h m U) m = some ((), s_w h m V) ∧ (∀ k, k ≠ 21 → k ≠ 23 → k ≠ 24 → k ≠ 26 → V k = U k) ∧ V 21 = iI i ∧ V 23 = iI 2 ∧ V 26 = iI i ∧ V 24 = iI v := fun U i v fuel hi h1 h2 h3 hk => by
    refine ⟨upd (upd U 23 2) 26 (iI i), ?_, fun k k1 k2 k3 k4 => by rw [upd_o k4, upd_o k2], by rw [upd_o (by decide), upd_o (by decide), h1], by rw [upd_o (by decide), upd_a]; rfl, by rw [upd_a], by rw [upd_o (by decide), upd_o (by decide), h3]⟩
    unfold f_M_stepOn_123
    rw [gI_u T.1, h1, cv_u T.1, byteAt_u N T h2 hi, cl_s, isDigit_i N _ (bt_rng T i), cl_s, if_neg hk, if_pos rfl, pI_u T.1, s218_u N T.1, upd_o (by decide), h1]
  intro q
  induction q with
  | zero =>
    intro i v U fuel hq h1 h2 h3 _
    rw [zrn, zdc, Nat.zero_add]
    exact stop' U i v fuel (by omega) h1 h2 h3 (by unfold bt; rw [if_neg (by omega)]; decide)
  | succ q ih =>
    intro i v U fuel hq h1 h2 h3 hv
    rw [zrn, zdc]
    have eb : bt B n i = B i := by unfold bt; rw [if_pos (by omega)]
    by_cases e : zkd (B i) = 2
    · rw [if_pos e, if_pos e]
      have hb := zkd2 e
      have e1 : iI (i : Int) + (1 : Int32) = iI ((i + 1 : Nat) : Int) := by rw [show (1 : Int32) = iI 1 from rfl, iI_add]; rfl
      have e2 : jmn (100000 : Int32) ((((10 : Int32) * iI v) + iI (B i)) - (48 : Int32)) = iI (if 10 * v + B i - 48 < 100000 then 10 * v + B i - 48 else 100000) := by
        rw [show (10 : Int32) = iI 10 from rfl, iI_mul, iI_add, show (48 : Int32) = iI 48 from rfl, iI_sub]
        have lt := iI_lt (a := 10 * v + B i - 48) (b := 100000) (by omega) (by omega)
        unfold jmn
        by_cases z : 10 * v + B i - 48 < 100000
        · rw [if_pos z, if_pos (show iI (10 * v + B i - 48) < (100000 : Int32) from lt.mpr z)]
        · rw [if_neg z, if_neg (show ¬ iI (10 * v + B i - 48) < (100000 : Int32) from fun y => z (lt.mp y))]; rfl
      obtain ⟨V, v1, v2, v3⟩ := ih (i + 1) (if 10 * v + B i - 48 < 100000 then 10 * v + B i - 48 else 100000) (upd (upd U 24 (iI (if 10 * v + B i - 48 < 100000 then 10 * v + B i - 48 else 100000))) 21 (iI ((i + 1 : Nat) : Int))) fuel (by omega) (upd_a _ _ _) (by rw [upd_o (by decide), upd_o (by decide), h2]) (by rw [upd_o (by decide), upd_a]) (by split <;> omega)
      refine ⟨V, ?_, fun k k1 k2 k3 k4 => by rw [v2 k k1 k2 k3 k4, upd_o k1, upd_o k3], v3⟩
      rw [show q + 1 + (fuel + 1) = (q + (fuel + 1)) + 1 by omega]
      conv => lhs; unfold f_M_stepOn_123
      rw [gI_u T.1, h1, cv_u T.1, byteAt_u N T h2 (by omega), cl_s, isDigit_i N _ (bt_rng T i), cl_s, eb, if_pos e, if_neg (by decide), gI_u T.1, h3, gI_u T.1, h1, cv_u T.1, byteAt_u N T h2 (by omega), cl_s, eb, pI_u T.1, e2, gI_u T.1, upd_o (by decide), h1, pI_u T.1, e1]
      exact v1
    · rw [if_neg e, if_neg e, show q + 1 + (fuel + 1) = (q + 1 + fuel) + 1 by omega]
      exact stop' U i v _ (by omega) h1 h2 h3 (by rw [eb]; exact e)
/-- the fields tell the token t -/
def tokR (B : Nat → Int) (V : Nat → Int32) (t : Int × Nat × Nat) : Prop := V 21 = iI t.2.2 ∧ V 23 = iI t.1 ∧ V 25 = iI t.2.1 ∧ V 26 = iI t.2.2 ∧ (t.1 = 2 → t.2.2 - t.2.1 ≤ 3 → V 24 = iI (zNv B t))
/-- no blank stands there -/
theorem step0r (N : Nat) (hN : 1000 ≤ N) (T : TQ A m h B n) {e : Nat} (he : e ≤ n) (hb : ¬ (bt B n e = 32 ∨ bt B n e = 10)) (U : Nat → Int32) (fuel : Nat) (h1 : U 21 = iI e) (h2 : U 22 = iI n) : ∃ V, f_M_stepOn_0 N (fuel + 1) (s_w h m U) m = some ((), s_w h m V) ∧ (∀ k, k ∉ tkF → V k = U k) ∧ tokR B V (zTk B n e) := by
  have h6 := T.2.1
  have rb := bt_rng T e
  have ne : ∀ k : Int, -100 ≤ k ∧ k ≤ 300 → bt B n e ≠ k → ¬ iI (bt B n e) = iI k := fun k hk hne z => hne ((iI_eq (by omega) (by omega)).mp z)
  have kf : ∀ k, k ∉ tkF → k ≠ 21 ∧ k ≠ 23 ∧ k ≠ 24 ∧ k ≠ 25 ∧ k ≠ 26 := fun k hk => by
    simp only [List.mem_cons, List.not_mem_nil, or_false] at hk; omega
  have e1 : iI (e : Int) + (1 : Int32) = iI ((e + 1 : Nat) : Int) := by rw [show (1 : Int32) = iI 1 from rfl, iI_add]; rfl
  have W1 : (upd U 25 (iI e)) 21 = iI e := by rw [upd_o (by decide), h1]
  have W2 : (upd U 25 (iI e)) 22 = iI n := by rw [upd_o (by decide), h2]
  have st : f_M_stepOn_0 N (fuel + 1) (s_w h m U) m = (if iI (bt B n e) = (-1 : Int32) then (pI (s_w h m (upd U 25 (iI e))) (some m) 0 23 (0 : Int32) fun h19 => f_M_stepOn_218 N h19 m) else (cl (f_M_isLetter N (s_w h m (upd U 25 (iI e))) (iI (bt B n e))) fun v12 h13 => if v12 = (0 : Int32) then (cl (f_M_isDigit N h13 (iI (bt B n e))) fun v14 h15 => if v14 = (0 : Int32) then (gI h15 (some m) 0 21 fun v16 => pI h15 (some m) 0 21 (v16 + (1 : Int32)) fun h17 => if iI (bt B n e) = (59 : Int32) then (f_M_stepOn_210 N h17 m (some m)) else (if iI (bt B n e) = (45 : Int32) then (f_M_stepOn_210 N h17 m (some m)) else (f_M_stepOn_215 N h17 m (some m) (4 : Int32)))) else (pI h15 (some m) 0 24 (0 : Int32) fun h18 => f_M_stepOn_123 N N h18 m)) else (f_M_stepOn_76 N N h13 m))) := by
    conv => lhs; unfold f_M_stepOn_0
    rw [gI_u T.1, h1, cv_u T.1, byteAt_u N T h2 he, cl_s, if_neg (show ¬ iI (bt B n e) = (32 : Int32) from ne 32 (by omega) (fun z => hb (Or.inl z))), gI_u T.1, h1, cv_u T.1, byteAt_u N T h2 he, cl_s, if_neg (show ¬ iI (bt B n e) = (10 : Int32) from ne 10 (by omega) (fun z => hb (Or.inr z))), gI_u T.1, h1, pI_u T.1, gI_u T.1, W1, cv_u T.1, byteAt_u N T W2 he, cl_s]
  by_cases q0 : n ≤ e
  · have : e = n := by omega
    subst this
    have eb : bt B e e = -1 := by unfold bt; rw [if_neg (by omega)]
    refine ⟨upd (upd (upd U 25 (iI e)) 23 0) 26 (iI e), ?_, fun k hk => ?_, ?_⟩
    · rw [st, if_pos (show iI (bt B e e) = (-1 : Int32) by rw [eb]; rfl), pI_u T.1, s218_u N T.1, upd_o (by decide), W1]
    · obtain ⟨k1, k2, k3, k4, k5⟩ := kf k hk
      rw [upd_o k5, upd_o k2, upd_o k4]
    · unfold zTk
      rw [if_pos (Nat.le_refl _)]
      exact ⟨by rw [upd_o (by decide), upd_o (by decide), W1], by rw [upd_o (by decide), upd_a]; rfl, by rw [upd_o (by decide), upd_o (by decide), upd_a], by rw [upd_a], fun z => by cases z⟩
  · have eb : bt B n e = B e := by unfold bt; rw [if_pos (by omega)]
    have hB := T.2.2.2 e (by omega)
    rw [eb] at st ne
    rw [if_neg (show ¬ iI (B e) = (-1 : Int32) from fun z => ne (-1) (by omega) (by omega) (z.trans (by decide))), isLetter_i N _ (by omega), cl_s] at st
    have zr := zkd_rng (B e)
    by_cases q1 : zkd (B e) = 1
    · rw [if_pos q1, if_neg (by decide)] at st
      obtain ⟨V, v1, v2, v3, v4, v5⟩ := step76 N T (n - e) e (upd U 25 (iI e)) (N - (n - e) - 1) (by omega) W1 W2
      rw [show n - e + (N - (n - e) - 1 + 1) = N by omega] at v1
      have ez : zrn B 1 (n - e) e = zrn B 1 (n - (e + 1)) (e + 1) := by
        rw [show n - e = (n - (e + 1)) + 1 by omega, zrn, if_pos q1]
      rw [ez] at v3 v5
      refine ⟨V, by rw [st]; exact v1, fun k hk => ?_, ?_⟩
      · obtain ⟨k1, k2, k3, k4, k5⟩ := kf k hk
        rw [v2 k k1 k2 k5, upd_o k4]
      · unfold zTk
        rw [if_neg q0, if_pos (Or.inl q1), q1]
        exact ⟨v3, v4, by rw [v2 25 (by decide) (by decide) (by decide), upd_a], v5, fun z => by cases z⟩
    · rw [if_neg q1, if_pos rfl, isDigit_i N _ (by omega), cl_s] at st
      by_cases q2 : zkd (B e) = 2
      · rw [if_pos q2, if_neg (by decide), pI_u T.1] at st
        obtain ⟨V, v1, v2, v3, v4, v5, v6⟩ := step123 N T (n - e) e 0 (upd (upd U 25 (iI e)) 24 0) (N - (n - e) - 1) (by omega) (by rw [upd_o (by decide), W1]) (by rw [upd_o (by decide), W2]) (by rw [upd_a]; rfl) (by omega)
        rw [show n - e + (N - (n - e) - 1 + 1) = N by omega] at v1
        have ez : zrn B 2 (n - e) e = zrn B 2 (n - (e + 1)) (e + 1) := by
          rw [show n - e = (n - (e + 1)) + 1 by omega, zrn, if_pos q2]
        refine ⟨V, by rw [st]; exact v1, fun k hk => ?_, ?_⟩
        · obtain ⟨k1, k2, k3, k4, k5⟩ := kf k hk
          rw [v2 k k1 k2 k3 k5, upd_o k3, upd_o k4]
        · have zq := zdc_eq B (n - e) e 0 0 (by omega) (by decide)
          unfold zTk
          rw [if_neg q0, if_pos (Or.inr q2), q2, ← ez]
          refine ⟨v3, v4, by rw [v2 25 (by decide) (by decide) (by decide) (by decide), upd_o (by decide), upd_a], v5, fun _ q3 => ?_⟩
          have q3' : zrn B 2 (n - e) e - e ≤ 3 := q3
          rw [v6, zq (by omega)]
          unfold zNv
          rw [if_pos q3]
      · rw [if_neg q2, if_pos rfl, gI_u T.1, W1, pI_u T.1, e1] at st
        have fin : ∀ k : Int32, k = iI (zkd (B e)) → f_M_stepOn_0 N (fuel + 1) (s_w h m U) m = f_M_stepOn_215 N (s_w h m (upd (upd U 25 (iI e)) 21 (iI ((e + 1 : Nat) : Int)))) m (some m) k → ∃ V, f_M_stepOn_0 N (fuel + 1) (s_w h m U) m = some ((), s_w h m V) ∧ (∀ k, k ∉ tkF → V k = U k) ∧ tokR B V (zTk B n e) := fun k hk e2 => by
          unfold f_M_stepOn_215 at e2
          rw [pI_u T.1, s218_u N T.1, upd_o (by decide), upd_a] at e2
          refine ⟨_, e2, fun k hk => ?_, ?_⟩
          · obtain ⟨k1, k2, k3, k4, k5⟩ := kf k hk
            rw [upd_o k5, upd_o k2, upd_o k1, upd_o k4]
          · unfold zTk
            rw [if_neg q0, if_neg (by omega)]
            exact ⟨by rw [upd_o (by decide), upd_o (by decide), upd_a], by rw [upd_o (by decide), upd_a]; exact hk, by rw [upd_o (by decide), upd_o (by decide), upd_o (by decide), upd_a], by rw [upd_a], fun z => absurd z q2⟩
        unfold f_M_stepOn_210 at st
        have zk : zkd (B e) = if B e = 59 ∨ B e = 45 then 3 else 4 := by
          unfold zkd at q1 q2 ⊢
          by_cases a1 : 97 ≤ B e ∧ B e ≤ 122
          · rw [if_pos a1] at q1; exact absurd rfl q1
          · rw [if_neg a1] at q2 ⊢
            by_cases a2 : 48 ≤ B e ∧ B e ≤ 57
            · rw [if_pos a2] at q2; exact absurd rfl q2
            · rw [if_neg a2]
        by_cases z1 : B e = 59
        · rw [if_pos (show iI (B e) = (59 : Int32) by rw [z1]; rfl)] at st
          exact fin 3 (by rw [zk, if_pos (Or.inl z1)]; rfl) st
        · rw [if_neg (show ¬ iI (B e) = (59 : Int32) from ne 59 (by omega) z1)] at st
          by_cases z2 : B e = 45
          · rw [if_pos (show iI (B e) = (45 : Int32) by rw [z2]; rfl)] at st
            exact fin 3 (by rw [zk, if_pos (Or.inr z2)]; rfl) st
          · rw [if_neg (show ¬ iI (B e) = (45 : Int32) from ne 45 (by omega) z2)] at st
            exact fin 4 (by rw [zk, if_neg (by omega)]; rfl) st
theorem step0 (N : Nat) (hN : 1000 ≤ N) (T : TQ A m h B n) : ∀ (q e : Nat) (U : Nat → Int32) (fuel : Nat), e + q = n → U 21 = iI e → U 22 = iI n → ∃ V, f_M_stepOn_0 N (q + (fuel + 1)) (s_w h m U) m = some ((), s_w h m V) ∧ (∀ k, k ∉ tkF → V k = U k) ∧ tokR B V (zTk B n (zsk B q e)) := by
  have h6 := T.2.1
  intro q
  induction q with
  | zero =>
    intro e U fuel hq h1 h2
    rw [zsk, Nat.zero_add]
    exact step0r N hN T (by omega) (by unfold bt; rw [if_neg (by omega)]; decide) U fuel h1 h2
  | succ q ih =>
    intro e U fuel hq h1 h2
    have eb : bt B n e = B e := by unfold bt; rw [if_pos (by omega)]
    rw [zsk]
    by_cases z : zbl (B e) = true
    · rw [if_pos z]
      have hz : B e = 32 ∨ B e = 10 := by unfold zbl at z; exact of_decide_eq_true z
      have e1 : iI (e : Int) + (1 : Int32) = iI ((e + 1 : Nat) : Int) := by rw [show (1 : Int32) = iI 1 from rfl, iI_add]; rfl
      obtain ⟨V, v1, v2, v3⟩ := ih (e + 1) (upd U 21 (iI ((e + 1 : Nat) : Int))) fuel (by omega) (upd_a _ _ _) (by rw [upd_o (by decide), h2])
      refine ⟨V, ?_, fun k hk => by rw [v2 k hk, upd_o (fun y => hk (by rw [y]; decide))], v3⟩
      rw [show q + 1 + (fuel + 1) = (q + (fuel + 1)) + 1 by omega]
      conv => lhs; unfold f_M_stepOn_0
      unfold f_M_stepOn_26
      rw [gI_u T.1, h1, cv_u T.1, byteAt_u N T h2 (by omega), cl_s, eb]
      by_cases z1 : B e = 32
      · rw [if_pos (show iI (B e) = (32 : Int32) by rw [z1]; rfl), gI_u T.1, h1, pI_u T.1, e1]
        exact v1
      · rw [if_neg (show ¬ iI (B e) = (32 : Int32) by rw [hz.resolve_left z1]; decide), gI_u T.1, h1, cv_u T.1, byteAt_u N T h2 (by omega), cl_s, eb, if_pos (show iI (B e) = (10 : Int32) by rw [hz.resolve_left z1]; rfl), gI_u T.1, h1, pI_u T.1, e1]
        exact v1
    · rw [if_neg z, show q + 1 + (fuel + 1) = (q + 1 + fuel) + 1 by omega]
      refine step0r N hN T (by omega) ?_ U _ h1 h2
      rw [eb]
      unfold zbl at z
      exact fun y => z (decide_eq_true y)
theorem stepOn_u (N : Nat) (hN : 1000 ≤ N) (T : TQ A m h B n) {e : Nat} (he : e ≤ n) (U : Nat → Int32) (h1 : U 21 = iI e) (h2 : U 22 = iI n) : ∃ V, f_M_stepOn N (s_w h m U) m = some ((), s_w h m V) ∧ (∀ k, k ∉ tkF → V k = U k) ∧ tokR B V (zTok B n e) := by
  have h6 := T.2.1
  obtain ⟨V, v1, v2, v3⟩ := step0 N hN T (n - e) e U (N - (n - e) - 1) (by omega) h1 h2
  rw [show n - e + (N - (n - e) - 1 + 1) = N by omega] at v1
  exact ⟨V, v1, v2, v3⟩
end
