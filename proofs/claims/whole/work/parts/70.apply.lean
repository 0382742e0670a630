/-! A STEP ON THE BENCH, by tables -/
def CZ (ρ : Nat → Nat) (l : Nat) (h : hS) (c : Nat) (Z : Nat → Int) : Prop := CR ρ l h c (zK Z) (-Z 0) (zLeast Z) ∧ zInv Z
theorem CZ.keep {ρ ρ' : Nat → Nat} {l : Nat} {h g : hS} {c : Nat} {Z : Nat → Int} {R : Nat → Prop} (C : CZ ρ l h c Z) (t : tr ρ h R ρ' g) (hR : ¬ R l) : CZ ρ' l g c Z := ⟨C.1.keep t hR, C.2⟩
theorem CZ.congr {ρ : Nat → Nat} {l : Nat} {h : hS} {c : Nat} {Z Y : Nat → Int} (C : CZ ρ l h c Z) (e : tEq Z Y) : CZ ρ l h c Y := ⟨by rw [← zK_congr e, ← e 0 (by omega), ← zLeast_congr e]; exact C.1, e.inv C.2⟩
theorem CB.keep {ρ ρ' : Nat → Nat} {l : Nat} {h g : hS} {c : Nat} {R : Nat → Prop} (C : CB ρ l h c) (t : tr ρ h R ρ' g) (hR : ¬ R l) : CB ρ' l g c ∧ capR g c = capR h c := by
  obtain ⟨r, q1, q2⟩ := C
  obtain ⟨a1, a2, a3, a4⟩ := t.2 c q1.2.2
  obtain ⟨b1, b2, b3, b4⟩ := t.2 r q2.2.2.2.1
  obtain ⟨a5, a6, a7⟩ := a4 (by rw [q1.2.1]; exact hR)
  have ht := t.1
  have hr : h_r g c 1 = some r := by rw [a7]; exact q2.1
  exact ⟨⟨r, ⟨a1.trans q1.1, a3.trans q1.2.1, by omega⟩, hr, b1.trans q2.2.1, b3.trans q2.2.2.1, by omega, by rw [b2]; exact q2.2.2.2.2⟩, by rw [capR_of q2.1, capR_of hr, b2]⟩
def rsF (h : hS) (b i : Nat) : Nat := match h_r h b i with
  | some c => rst (capR h c)
  | none => 0
/-- the room that the bench's rows may take yet -/
def brs (h : hS) (b : Nat) : Nat := rsF h b 0 + rsF h b 1 + rsF h b 2 + rsF h b 3
theorem rsF_of {h : hS} {b i c : Nat} (q : h_r h b i = some c) : rsF h b i = rst (capR h c) := by unfold rsF; rw [q]
theorem BO.rs {ρ : Nat → Nat} {h : hS} {b ba ad w s lw ls : Nat} (B : BO ρ h b ba ad w s lw ls) : brs h b = rst (capR h w) + rst (capR h s) + rst (capR h ba) + rst (capR h ad) := by
  unfold brs
  rw [rsF_of B.2.1.1, rsF_of B.2.1.2.1, rsF_of B.2.1.2.2.1, rsF_of B.2.1.2.2.2]
/-- the bench, its work the table Z; the bench, whatever it holds -/
def BS (ρ : Nat → Nat) (h : hS) (b ba ad : Nat) (Z : Nat → Int) : Prop := ∃ w s lw ls, BO ρ h b ba ad w s lw ls ∧ CZ ρ lw h w Z ∧ CB ρ ls h s ∧ CB ρ 4 h ba ∧ CB ρ 5 h ad
def BX (ρ : Nat → Nat) (h : hS) (b ba ad : Nat) : Prop := ∃ w s lw ls, BO ρ h b ba ad w s lw ls ∧ CB ρ lw h w ∧ CB ρ ls h s ∧ CB ρ 4 h ba ∧ CB ρ 5 h ad
theorem BS.x {ρ : Nat → Nat} {h : hS} {b ba ad : Nat} {Z : Nat → Int} (B : BS ρ h b ba ad Z) : BX ρ h b ba ad := by
  obtain ⟨w, s, lw, ls, b1, b2, b3⟩ := B
  exact ⟨w, s, lw, ls, b1, b2.1.b, b3⟩
theorem zOk_much {Z : Nat → Int} (hn : zNn Z) : kMuch (zK Z) (zLeast Z) ↔ ¬ zOk Z := by
  rw [kMuch_iff (zK_srt hn), zK_sum]
  have hw : zWide (zK Z) = false := by
    cases q : zWide (zK Z)
    · rfl
    · obtain ⟨e, he, _, h1⟩ := zWide_iff.mp q
      exact absurd (zK_rng e he) h1
  rw [hw]
  unfold zOk
  constructor
  · intro q z; rcases q with q | q | q
    · omega
    · omega
    · cases q
  · intro q
    by_cases h1 : 5000 < zWts Z
    · exact Or.inl h1
    · by_cases h2 : 100000000 < zLeast Z
      · exact Or.inr (Or.inl h2)
      · exact absurd ⟨by omega, by omega⟩ q
theorem zLeft_le {Z : Nat → Int} (h : zVee Z) : -Z 0 ≤ zSum (zK Z) := by
  rw [zK_sum]
  have h2 := h.2.2
  rw [zS_all] at h2
  generalize zWts Z = q at h2 ⊢
  omega
theorem zInv.kv {Z : Nat → Int} (h : zInv Z) {x : Int} (h1 : -5000 ≤ x) (h2 : x ≤ 5000) : 0 ≤ zLeast Z + kv x (-Z 0) (zK Z) ∧ zLeast Z + kv x (-Z 0) (zK Z) ≤ 400000000 := by
  rw [kv_val h.1]
  have := h.val (x := x) (by omega) (by omega)
  omega
section
variable {ρ : Nat → Nat} {h : hS} {b ba ad w s lw ls : Nat} {Z : Nat → Int}
theorem add_tab (N : Nat) (hN : 20000 ≤ N) (B : BO ρ h b ba ad w s lw ls) (CX : CZ ρ lw h w Z) (CS : CB ρ ls h s) (C4 : CB ρ 4 h ba) {La : List (Int × Int)} {fa bta : Int} (CY : CR ρ 5 h ad La fa bta) (hLa : srt La) (hLp : ∀ e ∈ La, -5000 ≤ e.1 ∧ e.1 ≤ 5000) (hfa : fa ≤ zSum La)
    (hvy : ∀ x, -5000 ≤ x → x ≤ 5000 → 0 ≤ bta + kv x fa La ∧ bta + kv x fa La ≤ 400000000) {W : Nat → Int} (hW : zVee W) (hF : ∀ φ, zF φ (zL W) = zF φ (zL Z) + zF φ La) (hW0 : W 0 = Z 0 - fa) (hWv : ∀ x, zVal W x = zVal Z x + (bta + kv x fa La)) (hWi : zOk W → zInv W) :
    ∃ ρ' g v, f_Bench_add N h b = some (v, g) ∧ tr ρ h RW ρ' g ∧ hm g + brs g b ≤ hm h + brs h b ∧ (zOk W → v = 1 ∧ BS ρ' g b ba ad W) ∧ (¬ zOk W → v = 0 ∧ BX ρ' g b ba ad) := by
  have hwt : zWts W = zSum (zK Z) + zSum La := by
    have := hF (fun _ => 1)
    rw [zF_one La, ← zWts_F, ← zWts_F] at this
    rw [this, zK_sum]
  have hsX := zK_srt CX.2.1.1
  have nx := CX.1.ok.nn
  have ny := CY.ok.nn
  by_cases hc : zSum (zK Z) + zSum La ≤ 5000
  · have hz : -Z 0 ≤ zSum (zK Z) := zLeft_le CX.2.1
    obtain ⟨ρ', g, v, a1, a2, a3, a4⟩ := add_is N hN B CX.1 CY CS hsX hLa (fun e he => zK_rng e he) hLp (by omega) (fun x h1 h2 => CX.2.kv h1 h2) hvy
    rcases a4 with ⟨q, _⟩ | ⟨_, R, bt, c1, c2, c3, c4, c5, c6, c7, c8, c9, c10⟩
    · omega
    have hR : R = zK W := srt_zK c5 hW.1 (fun φ => by rw [c6, hF, zK_F])
    have hlf : -Z 0 + fa = -W 0 := by omega
    rw [hlf] at c2 c7 c8
    have hbt : bt = zLeast W := by
      rw [c7, hR, kv_val CX.2.1, ← hWv, (kLow_least hW).1]
    rw [hR, hbt] at c2 c9 c10
    obtain ⟨d1, d2⟩ := C4.keep a2 (fun q => by unfold RW at q; omega)
    have hbr : brs g b = rst (capR g s) + rst (capR g w) + rst (capR g ba) + rst (capR g ad) := c1.rs
    refine ⟨ρ', g, v, a1, a2, ?_, fun q => ⟨c10 (fun z => ((zOk_much hW.1).mp z) q), ⟨s, w, ls, lw, c1, ⟨c2, hWi q⟩, c3.b, d1, c4.b⟩⟩, fun q => ⟨c9 ((zOk_much hW.1).mpr q), ⟨s, w, ls, lw, c1, c2.b, c3.b, d1, c4.b⟩⟩⟩
    rw [hbr, B.rs, d2]
    omega
  · have hno : ¬ zOk W := fun q => by have := q.1; omega
    refine ⟨ρ, h, 0, ?_, tr.rf, Nat.le_refl _, fun q => absurd q hno, fun _ => ⟨rfl, ⟨w, s, lw, ls, B, CX.1.b, CS, C4, CY.b⟩⟩⟩
    have ox := CX.1.ok
    have oy := CY.ok
    unfold f_Bench_add
    rw [gR_k B.k, B.2.1.1, gI_k CX.1.k, CX.1.f.2.2.1, gR_k B.k, B.2.1.2.2.2, gI_k CY.k, CY.f.2.2.1, iI_add, if_neg (show ¬ iI (zSum (zK Z) + zSum La) ≤ (5000 : Int32) from fun q => hc ((iI_le (b := 5000) (by have := ox.2.1; have := oy.2.1; omega) (by omega)).mp q)), bz_0]
theorem kv_one (x a : Int) {p q : Int} (hp : 0 ≤ p) (hq : 0 ≤ q) : 0 + kv x p (app [] a (p + q)) = p * max (a - x) 0 + q * max (x - a) 0 := by
  unfold app
  by_cases h0 : p + q ≤ 0
  · rw [if_pos h0, show p = 0 by omega, show q = 0 by omega]; simp [kv]
  · rw [if_neg h0]
    simp only [List.getLast?_nil, kv]
    rw [show min p (p + q) = p by omega, show p + q - p = q by omega]
    by_cases hx : x - a < 0
    · rw [if_pos hx, show max (a - x) 0 = -(x - a) by omega, show max (x - a) 0 = 0 by omega, Int.mul_zero, Int.mul_comm p]; omega
    · rw [if_neg hx, show max (a - x) 0 = 0 by omega, show max (x - a) 0 = x - a by omega, Int.mul_zero, Int.mul_comm q]; omega
theorem app_one_srt (a w : Int) : srt (app [] a w) ∧ ∀ e ∈ app [] a w, e.1 = a := by
  unfold app
  by_cases h0 : w ≤ 0
  · rw [if_pos h0]; exact ⟨trivial, fun e he => by cases he⟩
  · rw [if_neg h0]
    exact ⟨⟨by simp; omega, fun q hq => (by cases hq), trivial⟩, fun e he => by simp at he; rw [he]⟩
/-- 'kink', 'over', 'under' -/
theorem lean_tab (N : Nat) (hN : 20000 ≤ N) (B : BO ρ h b ba ad w s lw ls) (CX : CZ ρ lw h w Z) (CS : CB ρ ls h s) (C4 : CB ρ 4 h ba) (C5 : CB ρ 5 h ad) {a p q : Int} (ha : -500 ≤ a ∧ a ≤ 500) (hp : 0 ≤ p ∧ p ≤ 99) (hq : 0 ≤ q ∧ q ≤ 99) :
    ∃ ρ' g v, (gR h (some b) 1 3 fun v1 => cv h v1 3 (fun a0 => f_Curve_becomeKink N h a0 (iI a) (iI (p + q)) (iI p)) fun _ h3 => cv h3 (some b) 1 (fun a => f_Bench_add N h3 a) fun v1 h2 => bz v1 (some (v1, h2))) = some (v, g) ∧ tr ρ h RW ρ' g ∧ hm g + brs g b ≤ hm h + brs h b ∧ (zOk (zLean Z a p q) → v = 1 ∧ BS ρ' g b ba ad (zLean Z a p q)) ∧ (¬ zOk (zLean Z a p q) → v = 0 ∧ BX ρ' g b ba ad) := by
  have hne := B.ne
  obtain ⟨ρ1, g1, e1, e2, e3, e4⟩ := cbecome_is N C5 (p := a) (w := p + q) (f := p) (by omega) (by omega) (by omega)
  have B1 := B.keep e2 (fun z => by cases z)
  have CX1 := CX.keep e2 (fun z => hne.2.2.2.2.2.1 z)
  obtain ⟨CS1, hcs⟩ := CS.keep e2 (fun z => hne.2.2.2.2.2.2 z)
  obtain ⟨C41, hc4⟩ := C4.keep e2 (fun z => by cases z)
  have hcw := CX.1.cap e2 (fun z => hne.2.2.2.2.2.1 z)
  have h1 := app_one_srt a (p + q)
  have hsum : zSum (app [] a (p + q)) = p + q := by rw [app_sum (by omega)]; simp [zSum]
  have hmax : ∀ x, -5000 ≤ x → x ≤ 5000 → 0 ≤ p * max (a - x) 0 + q * max (x - a) 0 ∧ p * max (a - x) 0 + q * max (x - a) 0 ≤ 400000000 := fun x hx1 hx2 => by
    have m1 : 0 ≤ p * max (a - x) 0 := Int.mul_nonneg hp.1 (by omega)
    have m2 : 0 ≤ q * max (x - a) 0 := Int.mul_nonneg hq.1 (by omega)
    have m3 : p * max (a - x) 0 ≤ 99 * 6000 := Int.mul_le_mul hp.2 (by omega) (by omega) (by omega)
    have m4 : q * max (x - a) 0 ≤ 99 * 6000 := Int.mul_le_mul hq.2 (by omega) (by omega) (by omega)
    omega
  obtain ⟨ρ2, g2, v, a1, a2, a3, a4, a5⟩ := add_tab N hN B1 CX1 CS1 C41 e3 h1.1 (fun e he => by rw [h1.2 e he]; omega) (by rw [hsum]; omega) (fun x hx1 hx2 => by rw [kv_one x a hp.1 hq.1]; exact hmax x hx1 hx2) (W := zLean Z a p q) (zLean_vee CX.2.1 (by omega) hp.1 hq.1).1 (fun φ => by rw [zLean_L φ Z (by omega), app_F φ (by omega)]; simp [zF]) (by unfold zLean; rw [if_pos rfl]) (fun x => by rw [zLean_val Z (by omega), kv_one x a hp.1 hq.1]; omega) (fun z => (zLean_sm CX.2 ha hp hq).inv z)
  refine ⟨ρ2, g2, v, ?_, (e2.mono (fun z hz => Or.inr (Or.inr (Or.inr hz)))).trans a2, ?_, a4, a5⟩
  · have hk5 : h_k h ad = 3 + 1 := by obtain ⟨r, z, _⟩ := C5; exact z.1
    rw [gR_k B.k, B.2.1.2.2.2, cv_k hk5, e1, cl_s, cv_k B1.k, a1, cl_s]
    by_cases hz : zOk (zLean Z a p q)
    · rw [(a4 hz).1, bz_1]
    · rw [(a5 hz).1, bz_0]
  · rw [B.rs]
    rw [B1.rs, hcw, hcs, hc4] at a3
    omega
/-- 'and' -/
theorem and_tab (N : Nat) (hN : 20000 ≤ N) (B : BO ρ h b ba ad w s lw ls) (CX : CZ ρ lw h w Z) (CS : CB ρ ls h s) (C4 : CB ρ 4 h ba) (C5 : CB ρ 5 h ad) {k : Nat} {Y : Nat → Int} (K : KP ρ h k (zK Y) (-Y 0) (zLeast Y)) (hY : zInv Y) :
    ∃ ρ' g v, (gR h (some b) 1 3 fun v1 => cv h (some k) 4 (fun a0 => f_Keepsake_showOn N h a0 v1) fun _ h3 => cv h3 (some b) 1 (fun a => f_Bench_add N h3 a) fun v1 h2 => bz v1 (some (v1, h2))) = some (v, g) ∧ tr ρ h RW ρ' g ∧ hm g + brs g b ≤ hm h + brs h b ∧ (zOk (zAnd Z Y) → v = 1 ∧ BS ρ' g b ba ad (zAnd Z Y)) ∧ (¬ zOk (zAnd Z Y) → v = 0 ∧ BX ρ' g b ba ad) := by
  have hne := B.ne
  obtain ⟨ρ1, g1, e1, e2, e3, e4⟩ := show_is N (by omega) K C5 (by decide)
  have B1 := B.keep e2 (fun z => by cases z)
  have CX1 := CX.keep e2 (fun z => hne.2.2.2.2.2.1 z)
  obtain ⟨CS1, hcs⟩ := CS.keep e2 (fun z => hne.2.2.2.2.2.2 z)
  obtain ⟨C41, hc4⟩ := C4.keep e2 (fun z => by cases z)
  have hcw := CX.1.cap e2 (fun z => hne.2.2.2.2.2.1 z)
  have hle : -Y 0 ≤ zSum (zK Y) := zLeft_le hY.1
  obtain ⟨ρ2, g2, v, a1, a2, a3, a4, a5⟩ := add_tab N hN B1 CX1 CS1 C41 e3 (zK_srt hY.1.1) (fun e he => zK_rng e he) hle (fun x hx1 hx2 => hY.kv hx1 hx2) (W := zAnd Z Y) (zAnd_vee CX.2.1 hY.1).1 (fun φ => by rw [zAnd_L, zK_F]) (by unfold zAnd; omega) (fun x => by rw [zAnd_val, kv_val hY.1]) (fun z => (zAnd_sm CX.2 hY).inv z)
  refine ⟨ρ2, g2, v, ?_, (e2.mono (fun z hz => Or.inr (Or.inr (Or.inr hz)))).trans a2, ?_, a4, a5⟩
  · have hk5 : h_k h k = 4 + 1 := by obtain ⟨r, z, _⟩ := K; exact z.1
    rw [gR_k B.k, B.2.1.2.2.2, cv_k hk5, e1, cl_s, cv_k B1.k, a1, cl_s]
    by_cases hz : zOk (zAnd Z Y)
    · rw [(a4 hz).1, bz_1]
    · rw [(a5 hz).1, bz_0]
  · rw [B.rs]
    rw [B1.rs, hcw, hcs, hc4] at a3
    omega
/-- the verdict behind a step that isn't an addition -/
theorem much_end (N : Nat) {L : List (Int × Int)} {lf bt : Int} (B : BO ρ h b ba ad w s lw ls) (C : CR ρ lw h w L lf bt) : ∃ v : Int32, f_Bench_apply_180 N h b = some (v, h) ∧ (kMuch L bt → v = 0) ∧ (¬ kMuch L bt → v = 1) := by
  obtain ⟨v, c1, c2, c3⟩ := cmuch_is N C
  unfold f_Bench_apply_180 f_Bench_apply_195
  rw [gR_k B.k, B.2.1.1, cv_k C.k, c1, cl_s]
  by_cases hm : kMuch L bt
  · rw [c2 hm, if_neg (by decide), bz_0]; exact ⟨0, rfl, fun _ => rfl, fun q => absurd hm q⟩
  · rw [c3 hm, if_pos rfl, bz_1]; exact ⟨1, rfl, fun q => absurd q hm, fun _ => rfl⟩
/-- 'drift', 'move', 'rise', 'fall' -/
theorem resh_tab (N : Nat) (hN : 20000 ≤ N) (B : BO ρ h b ba ad w s lw ls) (CX : CZ ρ lw h w Z) (CS : CB ρ ls h s) (C4 : CB ρ 4 h ba) (C5 : CB ρ 5 h ad) (fa ri : Bool) {dn up : Int} (hd : -1000 ≤ dn ∧ dn ≤ 1000) (hu : -1000 ≤ up ∧ up ≤ 1000) (hdu : -dn ≤ up) {M : List (Int × Int)} (hM : ∀ e ∈ M, 0 ≤ e.2) (hMF : ∀ φ, zF φ (rl fa ri dn up (-Z 0) (zK Z)) = zF φ M) {W : Nat → Int}
    (hW : zWide M = false → zVee W ∧ (∀ φ, zF φ (zL W) = zF φ M) ∧ W 0 = (if fa = true then Z 0 else 0) ∧ zLeast W = zLeast Z ∧ (zOk W → zInv W)) :
    ∃ ρ' g v, (cv h (some b) 1 (fun a => f_Bench_reshape N h a (bI fa) (bI ri) (iI dn) (iI up)) fun _ h1 => f_Bench_apply_180 N h1 b) = some (v, g) ∧ tr ρ h RW ρ' g ∧ hm g + brs g b ≤ hm h + brs h b ∧ (zWide M = false ∧ zOk W → v = 1 ∧ BS ρ' g b ba ad W) ∧ (¬ (zWide M = false ∧ zOk W) → v = 0 ∧ BX ρ' g b ba ad) := by
  have hs5 : zSum (zK Z) ≤ 5000 := by rw [zK_sum]; exact CX.2.2.1.1
  obtain ⟨ρ', g, a1, a2, a3, a4, a5, a6⟩ := resh_is N hN B CX.1 CS (fun e he => zK_rng e he) hs5 fa ri hd hu
  have hz0 : 0 ≤ -Z 0 := by have := CX.2.1.2.1; omega
  have hpos := srt_pos (zK_srt CX.2.1.1)
  have hnn := rl_nn fa ri dn up (zK Z) (-Z 0) hz0 hpos
  obtain ⟨R, hR⟩ : ∃ R, R = apps [] (rl fa ri dn up (-Z 0) (zK Z)) := ⟨_, rfl⟩
  rw [← hR] at a5
  have hRs : srt R := by
    rw [hR, ← apps_kf _ _ hnn]
    exact apps_srt _ [] trivial (rl_ris fa ri hdu _ _ hz0 (zK_srt CX.2.1.1)) (fun e he => by cases he)
  have hRF : ∀ φ, zF φ R = zF φ M := fun φ => by rw [hR, apps_F φ _ _ hnn, hMF]; simp [zF]
  have hRw : zWide R = zWide M := wide_eq (fun e he => by have := srt_pos hRs e he; omega) hM (fun p => hRF _)
  obtain ⟨v, b1, b2, b3⟩ := much_end N a4 a5
  obtain ⟨d1, d2⟩ := C4.keep a2 (fun q => by unfold RV at q; omega)
  obtain ⟨C5', hc5⟩ := C5.keep a2 (fun q => by unfold RV at q; omega)
  have hbr : brs g b = rst (capR g s) + rst (capR g w) + rst (capR g ba) + rst (capR g ad) := a4.rs
  refine ⟨ρ', g, v, ?_, a2.mono RV_W, ?_, fun q => ?_, fun q => ?_⟩
  · rw [cv_k B.k, a1, cl_s]; exact b1
  · rw [hbr, B.rs, d2, hc5]; omega
  · obtain ⟨w1, w2, w3, w4, w5⟩ := hW q.1
    have hRK : R = zK W := srt_zK hRs w1.1 (fun φ => by rw [hRF, w2])
    have hl : (if fa = true then -Z 0 else 0) = -W 0 := by rw [w3]; split <;> omega
    rw [hRK, hl, ← w4] at a5
    rw [hRK, ← w4] at b3
    exact ⟨b3 (fun z => ((zOk_much w1.1).mp z) q.2), ⟨s, w, ls, lw, a4, ⟨a5, w5 q.2⟩, a6.b, d1, C5'⟩⟩
  · refine ⟨b2 ?_, ⟨s, w, ls, lw, a4, a5.b, a6.b, d1, C5'⟩⟩
    rw [kMuch_iff hRs, hRw]
    cases hm : zWide M
    · obtain ⟨w1, w2, w3, w4, w5⟩ := hW hm
      have hno : ¬ zOk W := fun z => q ⟨hm, z⟩
      have hRK : R = zK W := srt_zK hRs w1.1 (fun φ => by rw [hRF, w2])
      have := (kMuch_iff (zK_srt w1.1) (zLeast W)).mp ((zOk_much w1.1).mpr hno)
      rw [hRK, ← w4]
      rcases this with z | z | z
      · exact Or.inl z
      · exact Or.inr (Or.inl z)
      · rw [← hRK, hRw, hm] at z; cases z
    · exact Or.inr (Or.inr rfl)
end
