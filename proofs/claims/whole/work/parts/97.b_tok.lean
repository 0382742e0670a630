/-! THE CLASS'S READER: tokens. The reader's own numbers are one row F -/
def sg (c : Int) : Int := if c < 128 then c else c - 256
theorem nar_sg : ∀ c : Fin 256, vp_nar .byte (iI (c.val : Int)) = iI (sg (c.val : Int)) := by
  have : ∀ c : Fin 256, ((iI (c.val : Int)).toInt8.toInt32) = iI (sg (c.val : Int)) := by decide +kernel
  intro c
  rw [vp_nar_byte]
  exact this c
theorem nar_s {c : Int} (h : 0 ≤ c ∧ c ≤ 255) : vp_nar .byte (iI c) = iI (sg c) := by
  have := nar_sg ⟨c.toNat, by omega⟩
  simp only [] at this
  rw [show ((c.toNat : Nat) : Int) = c by omega] at this
  exact this
theorem sg_rng {c : Int} (h : 0 ≤ c ∧ c ≤ 255) : -128 ≤ sg c ∧ sg c ≤ 127 := by unfold sg; split <;> omega
theorem sg_eq {c d : Int} (h : 0 ≤ c ∧ c ≤ 255) (hd : 0 ≤ d ∧ d ≤ 127) : sg c = d ↔ c = d := by unfold sg; split <;> omega
theorem zkd_sg {c : Int} (h : 0 ≤ c ∧ c ≤ 255) : zkd (sg c) = zkd c := by
  unfold sg
  by_cases q : c < 128
  · rw [if_pos q]
  · rw [if_neg q]
    unfold zkd
    rw [if_neg (by omega), if_neg (by omega), if_neg (by omega), if_neg (by omega), if_neg (by omega), if_neg (by omega)]
theorem zbl_sg {c : Int} (h : 0 ≤ c ∧ c ≤ 255) : zbl (sg c) = zbl c := by
  unfold zbl
  have e : (sg c = 32 ∨ sg c = 10) ↔ (c = 32 ∨ c = 10) := by rw [sg_eq h (by omega), sg_eq h (by omega)]
  rw [decide_eq_decide]
  exact e
theorem tk_z (N : Nat) (h : hS) {z : Int} (hz : -128 ≤ z ∧ z ≤ 127) : f_Reader_tokenKind N h (iI z) = some (iI (zkd z), h) := by
  unfold zkd
  by_cases a : 97 ≤ z ∧ z ≤ 122
  · unfold f_Reader_tokenKind
    rw [if_neg (show ¬ iI z < (97 : Int32) from fun q => absurd ((iI_lt (b := 97) (by omega) (by omega)).mp q) (by omega)), if_neg (show ¬ (122 : Int32) < iI z from fun q => absurd ((iI_lt (a := 122) (by omega) (by omega)).mp q) (by omega)), if_pos a]
    rfl
  rw [if_neg a]
  have e14 : f_Reader_tokenKind N h (iI z) = f_Reader_tokenKind_14 N h (iI z) := by
    unfold f_Reader_tokenKind
    by_cases q : z < 97
    · rw [if_pos (show iI z < (97 : Int32) from (iI_lt (b := 97) (by omega) (by omega)).mpr q)]
    · rw [if_neg (show ¬ iI z < (97 : Int32) from fun y => q ((iI_lt (b := 97) (by omega) (by omega)).mp y)), if_pos (show (122 : Int32) < iI z from (iI_lt (a := 122) (by omega) (by omega)).mpr (by omega))]
  rw [e14]
  by_cases b : 48 ≤ z ∧ z ≤ 57
  · unfold f_Reader_tokenKind_14
    rw [if_neg (show ¬ iI z < (48 : Int32) from fun q => absurd ((iI_lt (b := 48) (by omega) (by omega)).mp q) (by omega)), if_neg (show ¬ (57 : Int32) < iI z from fun q => absurd ((iI_lt (a := 57) (by omega) (by omega)).mp q) (by omega)), if_pos b]
    rfl
  rw [if_neg b]
  have e28 : f_Reader_tokenKind_14 N h (iI z) = f_Reader_tokenKind_28 N h (iI z) := by
    unfold f_Reader_tokenKind_14
    by_cases q : z < 48
    · rw [if_pos (show iI z < (48 : Int32) from (iI_lt (b := 48) (by omega) (by omega)).mpr q)]
    · rw [if_neg (show ¬ iI z < (48 : Int32) from fun y => q ((iI_lt (b := 48) (by omega) (by omega)).mp y)), if_pos (show (57 : Int32) < iI z from (iI_lt (a := 57) (by omega) (by omega)).mpr (by omega))]
  rw [e28]
  unfold f_Reader_tokenKind_28 f_Reader_tokenKind_40 f_Reader_tokenKind_45
  by_cases c1 : z = 59
  · rw [if_pos (show iI z = (59 : Int32) by rw [c1]; rfl), if_pos (Or.inl c1)]
    rfl
  · rw [if_neg (show ¬ iI z = (59 : Int32) from fun q => c1 ((iI_eq (b := 59) (by omega) (by omega)).mp q))]
    by_cases c2 : z = 45
    · rw [if_pos (show iI z = (45 : Int32) by rw [c2]; rfl), if_pos (Or.inr c2)]
      rfl
    · rw [if_neg (show ¬ iI z = (45 : Int32) from fun q => c2 ((iI_eq (b := 45) (by omega) (by omega)).mp q)), if_neg (by omega)]
      rfl
theorem blank_y (N : Nat) (h : hS) {z : Int} (hb : zbl z = true) : f_Reader_isBlank N h (iI z) = some (1, h) := by
  unfold zbl at hb
  have hb := of_decide_eq_true hb
  unfold f_Reader_isBlank f_Reader_isBlank_12 f_Reader_isBlank_17
  rcases hb with e | e
  · rw [if_pos (show iI z = (32 : Int32) by rw [e]; rfl), bz_1]
  · rw [if_neg (show ¬ iI z = (32 : Int32) by rw [e]; decide), if_pos (show iI z = (10 : Int32) by rw [e]; rfl), bz_1]
theorem blank_n (N : Nat) (h : hS) {z : Int} (hz : -128 ≤ z ∧ z ≤ 127) (hb : ¬ zbl z = true) : f_Reader_isBlank N h (iI z) = some (0, h) := by
  have hb : ¬ (z = 32 ∨ z = 10) := fun q => hb (decide_eq_true q)
  unfold f_Reader_isBlank f_Reader_isBlank_12 f_Reader_isBlank_17
  rw [if_neg (show ¬ iI z = (32 : Int32) from fun q => hb (Or.inl ((iI_eq (b := 32) (by omega) (by omega)).mp q))), if_neg (show ¬ iI z = (10 : Int32) from fun q => hb (Or.inr ((iI_eq (b := 10) (by omega) (by omega)).mp q))), bz_0]
theorem upd_s {F : Nat → Int32} {k : Nat} {v : Int32} (h : F k = v) : upd F k v = F := by
  funext j
  unfold upd
  by_cases e : j = k
  · rw [if_pos e, e, h]
  · rw [if_neg e]
theorem upd_u (F : Nat → Int32) (k : Nat) (v w : Int32) : upd (upd F k v) k w = upd F k w := by
  funext j
  unfold upd
  by_cases e : j = k
  · rw [if_pos e, if_pos e]
  · rw [if_neg e, if_neg e, if_neg e]
theorem upd_a (F : Nat → Int32) (k : Nat) (v : Int32) : upd F k v k = v := by unfold upd; rw [if_pos rfl]
theorem upd_o {F : Nat → Int32} {k j : Nat} {v : Int32} (h : j ≠ k) : upd F k v j = F j := by unfold upd; rw [if_neg h]
/-- the reader r reads the bytes of the row tp -/
def RD (h : hS) (r tp : Nat) (B : Nat → Int) (n : Nat) : Prop := h_k h r = 5 + 1 ∧ h_r h r 7 = some tp ∧ h_k h tp = 52 ∧ (n ≤ h_n h tp ∧ h_n h tp ≤ 600) ∧ ∀ i, i < n → (0 ≤ B i ∧ B i ≤ 255) ∧ h_i h tp i = vp_nar .byte (iI (B i))
section
variable {β : Type} {h : hS} {r tp n : Nat} {B : Nat → Int} {F : Nat → Int32}
theorem aB_i {a m j : Nat} {f : Int32 → Option β} (hk : h_k h a = 52) (hl : h_n h a = m) (hj : j < m) (hn : m < 2 ^ 31) : aB h (some a) (iI j) f = f (h_i h a j) := by
  have h1 : inb (iI j) (h_n h a) := by rw [hl, ← nI_iI]; exact nI_in hj hn
  show (if (h_k h a = 52 ∨ h_k h a = 55) ∧ inb (iI j) (h_n h a) then f (h_i h a (iI j).toNatClampNeg) else none) = _
  rw [if_pos ⟨Or.inl hk, h1⟩, ← nI_iI, nI_clamp (by omega)]
theorem gW (D : RD h r tp B n) {k : Nat} {f : Int32 → Option β} : gI (s_w h r F) (some r) 5 k f = f (F k) := by
  rw [gI_k (show h_k (s_w h r F) r = 5 + 1 from D.1), h_i_sw, if_pos rfl]
theorem pW' (D : RD h r tp B n) {k : Nat} {v : Int32} {f : hS → Option β} : pI (s_w h r F) (some r) 5 k v f = f (s_w h r (upd F k v)) := by
  rw [pI_k (show h_k (s_w h r F) r = 5 + 1 from D.1), s_w_i]
theorem vW (D : RD h r tp B n) {α : Type} {f : Nat → Option (α × hS)} {K : α → hS → Option β} : cv (s_w h r F) (some r) 5 f K = cl (f r) K := cv_k (show h_k (s_w h r F) r = 5 + 1 from D.1)
theorem RD.le (D : RD h r tp B n) : n ≤ 600 := by obtain ⟨_, _, _, q, _⟩ := D; omega
theorem byteAt_in (N : Nat) (D : RD h r tp B n) (h8 : F 8 = iI n) {i : Nat} (hi : i < n) : f_Reader_byteAt N (s_w h r F) r (iI i) = some (iI (sg (B i)), s_w h r F) := by
  have hn := D.le
  have D' := D
  obtain ⟨d1, d2, d3, d4, d5⟩ := D
  obtain ⟨c1, c2⟩ := d5 i hi
  have ne : tp ≠ r := fun e => by rw [e, d1] at d3; exact absurd d3 (by decide)
  have k7 : h_k (s_w h r F) tp = 52 := d3
  unfold f_Reader_byteAt f_Reader_byteAt_31
  rw [if_neg (show ¬ iI (i : Int) < (0 : Int32) from fun q => absurd ((iI_lt (b := 0) (by omega) (by omega)).mp q) (by omega)), gW D', h8, if_neg (fun q => absurd ((iI_le (by omega) (by omega)).mp q) (by omega)), gR_k (show h_k (s_w h r F) r = 5 + 1 from d1), show h_r (s_w h r F) r 7 = some tp from d2, lnB_i k7 rfl, if_neg (show ¬ iI ((h_n (s_w h r F) tp : Nat) : Int) ≤ iI (i : Int) from fun q => absurd ((iI_le (by show -2147483648 ≤ ((h_n h tp : Nat) : Int) ∧ ((h_n h tp : Nat) : Int) ≤ 2147483647; omega) (by omega)).mp q) (by show ¬ ((h_n h tp : Nat) : Int) ≤ (i : Int); omega)), gR_k (show h_k (s_w h r F) r = 5 + 1 from d1), show h_r (s_w h r F) r 7 = some tp from d2, aB_i k7 rfl (show i < h_n h tp by omega) (show h_n h tp < 2 ^ 31 by omega), h_i_sw, if_neg ne, c2, nar_s c1]
/-- blanks are passed -/
theorem skip_loop (N : Nat) (D : RD h r tp B n) : ∀ (m a : Nat) (F : Nat → Int32) (fuel : Nat), a + m = n → F 8 = iI n → F 11 = iI a → f_Reader_nextToken_8 N (m + (fuel + 1)) (s_w h r F) r = f_Reader_nextToken_46 N (s_w h r (upd F 11 (iI ((zsk B m a : Nat) : Int)))) r := by
  have hn := D.le
  intro m
  induction m with
  | zero =>
    intro a F fuel ha h8 h11
    rw [Nat.zero_add, zsk, upd_s h11]
    unfold f_Reader_nextToken_8
    rw [gW D, h11, gW D, h8, if_pos ((iI_le (by omega) (by omega)).mpr (by omega))]
  | succ m ih =>
    intro a F fuel ha h8 h11
    have hb := (D.2.2.2.2 a (by omega)).1
    rw [show m + 1 + (fuel + 1) = (m + (fuel + 1)) + 1 by omega, zsk]
    unfold f_Reader_nextToken_8
    rw [gW D, h11, gW D, h8, if_neg (fun q => absurd ((iI_le (by omega) (by omega)).mp q) (by omega)), gW D, h11, vW D, byteAt_in N D h8 (by omega), cl_s]
    by_cases q : zbl (B a) = true
    · rw [blank_y N _ (by rw [zbl_sg hb]; exact q), cl_s, if_neg (by decide), gW D, h11, pW' D, if_pos q, show (1 : Int32) = iI 1 from rfl, iI_add, show (a : Int) + 1 = ((a + 1 : Nat) : Int) by omega, ih (a + 1) _ fuel (by omega) (by rw [upd_o (by decide)]; exact h8) (upd_a _ _ _), upd_u]
    · rw [blank_n N _ (sg_rng hb) (by rw [zbl_sg hb]; exact q), cl_s, if_pos rfl, if_neg q, upd_s h11]
/-- the longest row of one kind -/
theorem run_loop (N : Nat) (D : RD h r tp B n) {k : Int} (hk : 1 ≤ k ∧ k ≤ 4) : ∀ (m e : Nat) (F : Nat → Int32) (fuel : Nat), e + m = n → F 8 = iI n → F 10 = iI k → F 12 = iI e → f_Reader_nextToken_112 N (m + (fuel + 1)) (s_w h r F) r = some ((), s_w h r (upd F 12 (iI ((zrn B k m e : Nat) : Int)))) := by
  have hn := D.le
  intro m
  induction m with
  | zero =>
    intro e F fuel he h8 h10 h12
    rw [Nat.zero_add, zrn, upd_s h12]
    unfold f_Reader_nextToken_112 f_Reader_nextToken_154
    rw [gW D, h12, gW D, h8, if_pos ((iI_le (by omega) (by omega)).mpr (by omega))]
  | succ m ih =>
    intro e F fuel he h8 h10 h12
    have hb := (D.2.2.2.2 e (by omega)).1
    have hz := zkd_rng (B e)
    rw [show m + 1 + (fuel + 1) = (m + (fuel + 1)) + 1 by omega, zrn]
    unfold f_Reader_nextToken_112
    rw [gW D, h12, gW D, h8, if_neg (fun q => absurd ((iI_le (by omega) (by omega)).mp q) (by omega)), gW D, h12, vW D, byteAt_in N D h8 (by omega), cl_s, tk_z N _ (sg_rng hb), zkd_sg hb, cl_s, gW D, h10]
    by_cases q : zkd (B e) = k
    · rw [if_pos (show iI (zkd (B e)) = iI k by rw [q]), gW D, h12, pW' D, if_pos q, show (1 : Int32) = iI 1 from rfl, iI_add, show (e : Int) + 1 = ((e + 1 : Nat) : Int) by omega, ih (e + 1) _ fuel (by omega) (by rw [upd_o (by decide)]; exact h8) (by rw [upd_o (by decide)]; exact h10) (upd_a _ _ _), upd_u]
    · rw [if_neg (fun z => q ((iI_eq (by omega) (by omega)).mp z)), if_neg q, upd_s h12]
      rfl
/-- a token's numbers -/
def tokF (F : Nat → Int32) (t : Int × Nat × Nat) (j : Nat) : Int32 := if j = 10 then iI t.1 else if j = 11 then iI t.2.1 else if j = 12 then iI t.2.2 else F j
theorem tokF_o {t : Int × Nat × Nat} {j : Nat} (h0 : j ≠ 10) (h1 : j ≠ 11) (h2 : j ≠ 12) : tokF F t j = F j := by unfold tokF; rw [if_neg h0, if_neg h1, if_neg h2]
theorem next_46 (N : Nat) (hN : 1000 ≤ N) (D : RD h r tp B n) {a : Nat} (ha : a ≤ n) (h8 : F 8 = iI n) (h11 : F 11 = iI a) : f_Reader_nextToken_46 N (s_w h r F) r = some ((), s_w h r (tokF F (zTk B n a))) := by
  have hn := D.le
  unfold f_Reader_nextToken_46 zTk
  rw [gW D, h11, pW' D, gW D, upd_o (by decide), h11, gW D, upd_o (by decide), h8]
  by_cases q : n ≤ a
  · rw [if_neg (fun z => absurd ((iI_lt (by omega) (by omega)).mp z) (by omega)), pW' D, if_pos q]
    congr 3
    funext j
    unfold upd tokF
    by_cases e10 : j = 10
    · rw [if_pos e10, if_pos e10]; rfl
    · rw [if_neg e10, if_neg e10]
      by_cases e11 : j = 11
      · rw [if_pos e11, if_neg (by omega), e11, h11]
      · rw [if_neg e11]
  · have hb := (D.2.2.2.2 a (by omega)).1
    have hz := zkd_rng (B a)
    have e1 : iI (a : Int) + (1 : Int32) = iI ((a + 1 : Nat) : Int) := by rw [show (1 : Int32) = iI 1 from rfl, iI_add]; rfl
    rw [if_pos ((iI_lt (by omega) (by omega)).mpr (by omega)), gW D, upd_o (by decide), h11, vW D, byteAt_in N D (F := upd F 12 (iI a)) (by rw [upd_o (by decide)]; exact h8) (by omega), cl_s, tk_z N _ (sg_rng hb), zkd_sg hb, cl_s, pW' D, gW D, upd_o (by decide), upd_a, e1, pW' D, gW D, upd_o (by decide), upd_a, if_neg q]
    obtain ⟨G, hG⟩ : ∃ G, G = upd (upd (upd F 12 (iI (a : Int))) 10 (iI (zkd (B a)))) 12 (iI ((a + 1 : Nat) : Int)) := ⟨_, rfl⟩
    rw [← hG]
    have g8 : G 8 = iI n := by rw [hG, upd_o (by decide), upd_o (by decide), upd_o (by decide)]; exact h8
    have g10 : G 10 = iI (zkd (B a)) := by rw [hG, upd_o (by decide), upd_a]
    have g12 : G 12 = iI ((a + 1 : Nat) : Int) := by rw [hG, upd_a]
    have lp := run_loop N D (k := zkd (B a)) hz (n - (a + 1)) (a + 1) G (N - (n - (a + 1)) - 1) (by omega) g8 g10 g12
    rw [show n - (a + 1) + (N - (n - (a + 1)) - 1 + 1) = N by omega] at lp
    have fin : ∀ e : Nat, (upd G 12 (iI (e : Int))) = tokF F (zkd (B a), a, e) := fun e => by
      funext j
      rw [hG]
      unfold upd tokF
      by_cases e12 : j = 12
      · rw [if_pos e12, if_neg (by omega), if_neg (by omega), if_pos e12]
      · rw [if_neg e12, if_neg e12, if_neg e12]
        by_cases e10 : j = 10
        · rw [if_pos e10, if_pos e10]
        · rw [if_neg e10, if_neg e10]
          by_cases e11 : j = 11
          · rw [if_pos e11, e11, h11]
          · rw [if_neg e11, if_neg e12]
    by_cases k1 : zkd (B a) = 1
    · rw [if_pos (show iI (zkd (B a)) = (1 : Int32) by rw [k1]; rfl), lp, fin, if_pos (Or.inl k1)]
    · rw [if_neg (show ¬ iI (zkd (B a)) = (1 : Int32) from fun z => k1 ((iI_eq (b := 1) (by omega) (by omega)).mp z)), gW D, g10]
      by_cases k2 : zkd (B a) = 2
      · rw [if_pos (show iI (zkd (B a)) = (2 : Int32) by rw [k2]; rfl), lp, fin, if_pos (Or.inr k2)]
      · rw [if_neg (show ¬ iI (zkd (B a)) = (2 : Int32) from fun z => k2 ((iI_eq (b := 2) (by omega) (by omega)).mp z)), if_neg (fun z => z.elim k1 k2), ← fin, upd_s g12]
        rfl
theorem next_is (N : Nat) (hN : 1000 ≤ N) (D : RD h r tp B n) {e : Nat} (he : e ≤ n) (h8 : F 8 = iI n) (h12 : F 12 = iI e) : f_Reader_nextToken N (s_w h r F) r = some ((), s_w h r (tokF F (zTok B n e))) := by
  have hn := D.le
  unfold f_Reader_nextToken
  rw [gW D, h12, pW' D]
  have lp := skip_loop N D (n - e) e (upd F 11 (iI e)) (N - (n - e) - 1) (by omega) (by rw [upd_o (by decide)]; exact h8) (upd_a _ _ _)
  rw [show n - e + (N - (n - e) - 1 + 1) = N by omega, upd_u] at lp
  have h1 := zsk_rng B (n - e) e
  rw [lp, next_46 N hN D (a := zsk B (n - e) e) (by omega) (by rw [upd_o (by decide)]; exact h8) (upd_a _ _ _)]
  unfold zTok
  congr 3
  funext j
  unfold tokF upd
  by_cases e10 : j = 10
  · rw [if_pos e10, if_pos e10]
  · rw [if_neg e10, if_neg e10]
    by_cases e11 : j = 11
    · rw [if_pos e11, if_pos e11]
    · rw [if_neg e11, if_neg e11, if_neg e11]
/-- a sign -/
theorem sign_is (N : Nat) (D : RD h r tp B n) {t : Int × Nat × Nat} (h8 : F 8 = iI n) (h10 : F 10 = iI t.1) (h11 : F 11 = iI t.2.1) (ht : 0 ≤ t.1 ∧ t.1 ≤ 4) (hn : t.1 ≠ 0 → t.2.1 < n) {c : Int} (hc : 0 ≤ c ∧ c ≤ 127) : ∃ v : Int32, f_Reader_isSign N (s_w h r F) r (iI c) = some (v, s_w h r F) ∧ ((t.1 = 3 ∧ B t.2.1 = c) → v = 1) ∧ (¬ (t.1 = 3 ∧ B t.2.1 = c) → v = 0) := by
  unfold f_Reader_isSign f_Reader_isSign_24 f_Reader_isSign_25
  rw [gW D, h10]
  by_cases q : t.1 = 3
  · have hi := hn (by omega)
    have hb := (D.2.2.2.2 _ hi).1
    have hs := sg_rng hb
    rw [if_pos (show iI t.1 = (3 : Int32) by rw [q]; rfl), gW D, h11, vW D, byteAt_in N D h8 hi, cl_s]
    by_cases q2 : B t.2.1 = c
    · rw [if_pos (show iI (sg (B t.2.1)) = iI c by rw [(sg_eq hb hc).mpr q2])]
      exact ⟨1, bz_1, fun _ => rfl, fun z => absurd ⟨q, q2⟩ z⟩
    · rw [if_neg (fun z => q2 ((sg_eq hb hc).mp ((iI_eq (by omega) (by omega)).mp z)))]
      exact ⟨0, bz_0, fun z => absurd z.2 q2, fun _ => rfl⟩
  · rw [if_neg (show ¬ iI t.1 = (3 : Int32) from fun z => q ((iI_eq (b := 3) (by omega) (by omega)).mp z))]
    exact ⟨0, bz_0, fun z => absurd z.1 q, fun _ => rfl⟩
theorem num_loop (N : Nat) (D : RD h r tp B n) (h8 : F 8 = iI n) {s : Nat} (hs : s ≤ n) (h12 : F 12 = iI s) : ∀ (m i : Nat) (v : Int) (fuel : Nat), i + m = s → (∀ j, i ≤ j → j < s → 48 ≤ B j ∧ B j ≤ 57) → f_Reader_numberOfToken_23 N (m + (fuel + 1)) (s_w h r F) r (iI v) (iI i) = some (iI (zdg B m i v), s_w h r F) := by
  have hn := D.le
  intro m
  induction m with
  | zero =>
    intro i v fuel hi _
    rw [Nat.zero_add, zdg]
    unfold f_Reader_numberOfToken_23
    rw [gW D, h12, if_pos ((iI_le (by omega) (by omega)).mpr (by omega))]
  | succ m ih =>
    intro i v fuel hi hd
    have hb := hd i (by omega) (by omega)
    rw [show m + 1 + (fuel + 1) = (m + (fuel + 1)) + 1 by omega, zdg]
    unfold f_Reader_numberOfToken_23
    rw [gW D, h12, if_neg (fun q => absurd ((iI_le (by omega) (by omega)).mp q) (by omega)), vW D, byteAt_in N D h8 (by omega), cl_s, show sg (B i) = B i by unfold sg; rw [if_pos (by omega)], bn_i, show (10 : Int32) = iI 10 from rfl, iI_mul, iI_add, show (48 : Int32) = iI 48 from rfl, iI_sub, bn_i, show (1 : Int32) = iI 1 from rfl, iI_add, show (i : Int) + 1 = ((i + 1 : Nat) : Int) by omega]
    exact ih (i + 1) _ fuel (by omega) (fun j j1 j2 => hd j (by omega) j2)
theorem numTok_is (N : Nat) (hN : 1000 ≤ N) (D : RD h r tp B n) (h8 : F 8 = iI n) {t : Int × Nat × Nat} (h11 : F 11 = iI t.2.1) (h12 : F 12 = iI t.2.2) (ht : t.2.1 ≤ t.2.2 ∧ t.2.2 ≤ n) (hd : ∀ j, t.2.1 ≤ j → j < t.2.2 → 48 ≤ B j ∧ B j ≤ 57) : f_Reader_numberOfToken N (s_w h r F) r = some (iI (zNv B t), s_w h r F) := by
  have hn := D.le
  unfold f_Reader_numberOfToken zNv
  rw [gW D, h12, gW D, h11, iI_sub]
  by_cases q : t.2.2 - t.2.1 ≤ 3
  · rw [if_pos (show iI ((t.2.2 : Int) - t.2.1) ≤ (3 : Int32) from (iI_le (b := 3) (by omega) (by omega)).mpr (by omega)), if_pos q, gW D, h11]
    have lp := num_loop N D h8 ht.2 h12 (t.2.2 - t.2.1) t.2.1 0 (N - (t.2.2 - t.2.1) - 1) (by omega) hd
    rw [show t.2.2 - t.2.1 + (N - (t.2.2 - t.2.1) - 1 + 1) = N by omega] at lp
    exact lp
  · rw [if_neg (show ¬ iI ((t.2.2 : Int) - t.2.1) ≤ (3 : Int32) from fun z => absurd ((iI_le (b := 3) (by omega) (by omega)).mp z) (by omega)), if_neg q]
    rfl
end
