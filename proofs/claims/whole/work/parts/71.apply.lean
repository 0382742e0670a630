abbrev stOk (Z Y : Nat → Int) (kd a c : Int) : Prop := zBey Z kd a c = false ∧ zOk (zStep Z Y kd a c)
theorem mx0 {Z : Nat → Int} (h : Z 0 ≤ 0) : max 0 (-zS Z 0) = -Z 0 := by show max 0 (-Z 0) = -Z 0; omega
theorem plist_nn {Z : Nat → Int} (h : zNn Z) (dn up : Int) (fa ri : Bool) : ∀ e ∈ plist Z dn up fa ri 10001 0, 0 ≤ e.2 := plist_nonneg h 10001 0 (by omega)
section
variable {ρ : Nat → Nat} {h : hS} {b ba ad : Nat} {Z : Nat → Int}
theorem parts_tab (N : Nat) (hN : 20000 ≤ N) (S : BS ρ h b ba ad Z) (fa ri : Bool) {dn up : Int} (hd : 0 ≤ dn ∧ dn ≤ 1000) (hu : 0 ≤ up ∧ up ≤ 1000) :
    ∃ ρ' g v, (cv h (some b) 1 (fun a => f_Bench_reshape N h a (bI fa) (bI ri) (iI dn) (iI up)) fun _ h1 => f_Bench_apply_180 N h1 b) = some (v, g) ∧ tr ρ h RW ρ' g ∧ hm g + brs g b ≤ hm h + brs h b ∧ (zWide (plist Z dn up fa ri 10001 0) = false ∧ zOk (zParts Z (plist Z dn up fa ri 10001 0) dn fa) → v = 1 ∧ BS ρ' g b ba ad (zParts Z (plist Z dn up fa ri 10001 0) dn fa)) ∧ (¬ (zWide (plist Z dn up fa ri 10001 0) = false ∧ zOk (zParts Z (plist Z dn up fa ri 10001 0) dn fa)) → v = 0 ∧ BX ρ' g b ba ad) := by
  obtain ⟨w, s, lw, ls, B, CX, CS, C4, C5⟩ := S
  have hMF : ∀ φ, zF φ (rl fa ri dn up (-Z 0) (zK Z)) = zF φ (plist Z dn up fa ri 10001 0) := fun φ => by
    have := rl_dl φ CX.2.1.1 fa ri dn up 10001 0 (by omega)
    rw [mx0 CX.2.1.2.1] at this
    exact this
  exact resh_tab N hN B CX CS C4 C5 fa ri (by omega) (by omega) (by omega) (plist_nn CX.2.1.1 dn up fa ri) hMF (fun hw => ⟨(zParts_vee CX.2.1 hw).1, fun φ => by rw [zParts_L φ hw, plist_F]; rfl, by unfold zParts; rw [if_pos rfl], zParts_least CX.2.1 hd hu.1 hw, fun z => (zParts_sm CX.2 hd hu.1 hw).inv z⟩)
theorem drift_tab (N : Nat) (hN : 20000 ≤ N) (S : BS ρ h b ba ad Z) {d : Int} (hd : -500 ≤ d ∧ d ≤ 500) :
    ∃ ρ' g v, (cv h (some b) 1 (fun a => f_Bench_reshape N h a (bI true) (bI true) (iI (-d)) (iI d)) fun _ h1 => f_Bench_apply_180 N h1 b) = some (v, g) ∧ tr ρ h RW ρ' g ∧ hm g + brs g b ≤ hm h + brs h b ∧ (zWide (dlist Z d 10001 0) = false ∧ zOk (zDrift Z d) → v = 1 ∧ BS ρ' g b ba ad (zDrift Z d)) ∧ (¬ (zWide (dlist Z d 10001 0) = false ∧ zOk (zDrift Z d)) → v = 0 ∧ BX ρ' g b ba ad) := by
  obtain ⟨w, s, lw, ls, B, CX, CS, C4, C5⟩ := S
  have hsh : ∀ φ, zF φ (dlist Z d 10001 0) = zF (fun p => φ (p + d)) (zL Z) := fun φ => zF_shift φ Z d 10001 0
  exact resh_tab N hN B CX CS C4 C5 true true (by omega) (by omega) (by omega) (dlist_nonneg 10001 0 (by omega) CX.2.1.1) (fun φ => by rw [rl_drift, zK_F, hsh]) (fun hw => ⟨(zDrift_vee CX.2.1 hw).1, fun φ => by rw [zDrift_L φ hw, hsh], by unfold zDrift; rw [if_pos rfl, if_pos rfl], zDrift_least CX.2.1 hw, fun z => (zDrift_sm CX.2 hw).inv z⟩)
theorem plus_tab (N : Nat) (S : BS ρ h b ba ad Z) {a : Int} (ha : 0 ≤ a ∧ a ≤ 999) :
    ∃ ρ' g v, (gR h (some b) 1 0 fun v18 => gJ h v18 3 4 fun v19 => pJ h v18 3 4 (v19 + (iI a).toInt64) fun h20 => f_Bench_apply_180 N h20 b) = some (v, g) ∧ tr ρ h RW ρ' g ∧ hm g + brs g b ≤ hm h + brs h b ∧ (zOk (zPlus Z a) → v = 1 ∧ BS ρ' g b ba ad (zPlus Z a)) ∧ (¬ zOk (zPlus Z a) → v = 0 ∧ BX ρ' g b ba ad) := by
  obtain ⟨w, s, lw, ls, B, CX, CS, C4, C5⟩ := S
  have hne := B.ne
  have hl := zPlus_least CX.2.1 a
  have hle := CX.2.2.1.2
  have h0 := CX.2.2.2
  have hv := zPlus_vee CX.2.1 a
  have C1 := CX.1.bottom (v := zLeast (zPlus Z a)) (by rw [hl]; omega)
  have e1 : zK (zPlus Z a) = zK Z := by unfold zK; rw [zPlus_L]
  have e2 : zPlus Z a 0 = Z 0 := by unfold zPlus; rw [if_neg (by omega)]
  rw [← e1, ← e2] at C1
  have T : tr ρ h (rg lw) ρ (s_j h w 4 (lI (zLeast (zPlus Z a)))) := tr_sj CX.1.lab.1
  have B1 := B.keep T (fun q => hne.2.1 q.symm)
  obtain ⟨CS1, hcs⟩ := CS.keep T (fun q => hne.1 q.symm)
  obtain ⟨C41, hc4⟩ := C4.keep T (fun q => hne.2.2.2.1 q.symm)
  obtain ⟨C51, hc5⟩ := C5.keep T (fun q => hne.2.2.2.2.2.1 q.symm)
  obtain ⟨v, b1, b2, b3⟩ := much_end N B1 C1
  refine ⟨ρ, _, v, ?_, T.mono (fun q hq => ?_), ?_, fun q => ⟨b3 (fun z => ((zOk_much hv.1.1).mp z) q), ⟨w, s, lw, ls, B1, ⟨C1, (zPlus_sm CX.2 ha).inv q⟩, CS1, C41, C51⟩⟩, fun q => ⟨b2 ((zOk_much hv.1.1).mpr q), ⟨w, s, lw, ls, B1, C1.b, CS1, C41, C51⟩⟩⟩
  · rw [gR_k B.k, B.2.1.1, gJ_k CX.1.k, CX.1.f.2.2.2, pJ_k CX.1.k, iI_l (by omega) (by omega), lI_add, ← hl]
    exact b1
  · have : q = lw := hq
    unfold RW; rcases B.2.2 with ⟨z, _⟩ | ⟨z, _⟩ <;> omega
  · have hcw : capR (s_j h w 4 (lI (zLeast (zPlus Z a)))) w = capR h w := by
      obtain ⟨r, _, z, _⟩ := CX.1
      rw [capR_of z.1]; exact capR_of z.1
    rw [B1.rs, B.rs, hcw, hcs, hc4, hc5]
    exact Nat.le_refl _
theorem apply_is (N : Nat) (hN : 20000 ≤ N) (S : BS ρ h b ba ad Z) {kd a c : Int} (hk : okArg kd a c) {o : Option Nat} {Y : Nat → Int} (ho : kd = 8 → ∃ k, o = some k ∧ KP ρ h k (zK Y) (-Y 0) (zLeast Y) ∧ zInv Y) :
    ∃ ρ' g v, f_Bench_apply N h b (iI kd) (iI a) (iI c) o = some (v, g) ∧ tr ρ h RW ρ' g ∧ hm g + brs g b ≤ hm h + brs h b ∧ (stOk Z Y kd a c → v = 1 ∧ BS ρ' g b ba ad (zStep Z Y kd a c)) ∧ (¬ stOk Z Y kd a c → v = 0 ∧ BX ρ' g b ba ad) := by
  obtain ⟨k0, k1, k2, k3, k4⟩ := hk
  have S' := S
  obtain ⟨w, s, lw, ls, B, CX, CS, C4, C5⟩ := S'
  unfold f_Bench_apply
  have fr : ∀ {W : Nat → Int} {P Q : Prop}, (zBey Z kd a c = false) → zStep Z Y kd a c = W → (zOk W → P) → (¬ zOk W → Q) → (stOk Z Y kd a c → P) ∧ (¬ stOk Z Y kd a c → Q) := by
    intro W P Q h1 h2 h3 h4
    refine ⟨fun q => h3 (by rw [← h2]; exact q.2), fun q => h4 (fun z => q ⟨h1, by rw [h2]; exact z⟩)⟩
  rcases (show kd = 0 ∨ kd = 1 ∨ kd = 2 ∨ kd = 3 ∨ kd = 4 ∨ kd = 5 ∨ kd = 6 ∨ kd = 7 ∨ kd = 8 by omega) with e | e | e | e | e | e | e | e | e <;> subst e
  · obtain ⟨k1a, k1b⟩ := k1 (by omega)
    rw [if_pos (show iI 0 = (0 : Int32) from rfl)]
    have h2 : (2 : Int32) * iI c = iI (c + c) := by rw [show (2 : Int32) = iI 2 from rfl, iI_mul]; congr 1; omega
    rw [h2]
    obtain ⟨ρ', g, v, a1, a2, a3, a4, a5⟩ := lean_tab N hN B CX CS C4 C5 k1a k1b k1b
    obtain ⟨f1, f2⟩ := fr (W := zLean Z a c c) (by unfold zBey; simp) (by unfold zStep; simp) a4 a5
    exact ⟨ρ', g, v, a1, a2, a3, by simpa [zStep] using f1, f2⟩
  · obtain ⟨k1a, k1b⟩ := k1 (by omega)
    rw [if_neg (show ¬ iI 1 = (0 : Int32) by decide), if_pos (show iI 1 = (1 : Int32) from rfl)]
    obtain ⟨ρ', g, v, a1, a2, a3, a4, a5⟩ := lean_tab N hN B CX CS C4 C5 k1a (p := 0) (q := c) (by omega) k1b
    rw [Int.zero_add] at a1
    obtain ⟨f1, f2⟩ := fr (W := zLean Z a 0 c) (by unfold zBey; simp) (by unfold zStep; simp) a4 a5
    exact ⟨ρ', g, v, a1, a2, a3, by simpa [zStep] using f1, f2⟩
  · obtain ⟨k1a, k1b⟩ := k1 (by omega)
    rw [if_neg (show ¬ iI 2 = (0 : Int32) by decide), if_neg (show ¬ iI 2 = (1 : Int32) by decide), if_pos (show iI 2 = (2 : Int32) from rfl)]
    obtain ⟨ρ', g, v, a1, a2, a3, a4, a5⟩ := lean_tab N hN B CX CS C4 C5 k1a (p := c) (q := 0) k1b (by omega)
    rw [Int.add_zero] at a1
    obtain ⟨f1, f2⟩ := fr (W := zLean Z a c 0) (by unfold zBey; simp) (by unfold zStep; simp) a4 a5
    exact ⟨ρ', g, v, a1, a2, a3, by simpa [zStep] using f1, f2⟩
  · have k3a := k2 rfl
    rw [if_neg (show ¬ iI 3 = (0 : Int32) by decide), if_neg (show ¬ iI 3 = (1 : Int32) by decide), if_neg (show ¬ iI 3 = (2 : Int32) by decide), if_pos (show iI 3 = (3 : Int32) from rfl), iI_neg]
    obtain ⟨ρ', g, v, a1, a2, a3, a4, a5⟩ := drift_tab N hN S k3a
    have e1 : zBey Z 3 a c = zWide (dlist Z a 10001 0) := by unfold zBey; rw [if_pos rfl]
    have e2 : zStep Z Y 3 a c = zDrift Z a := by unfold zStep; simp
    refine ⟨ρ', g, v, a1, a2, a3, fun q => ?_, fun q => ?_⟩
    · rw [e2]; exact a4 ⟨by rw [← e1]; exact q.1, by rw [← e2]; exact q.2⟩
    · exact a5 (fun z => q ⟨by rw [e1]; exact z.1, by rw [e2]; exact z.2⟩)
  · obtain ⟨k4a, k4b⟩ := k3 rfl
    rw [if_neg (show ¬ iI 4 = (0 : Int32) by decide), if_neg (show ¬ iI 4 = (1 : Int32) by decide), if_neg (show ¬ iI 4 = (2 : Int32) by decide), if_neg (show ¬ iI 4 = (3 : Int32) by decide), if_pos (show iI 4 = (4 : Int32) from rfl)]
    obtain ⟨ρ', g, v, a1, a2, a3, a4, a5⟩ := parts_tab N hN S true true (dn := a) (up := c) (by omega) (by omega)
    have e1 : zBey Z 4 a c = zWide (plist Z a c true true 10001 0) := by unfold zBey; rw [if_neg (by omega), if_pos rfl]
    have e2 : zStep Z Y 4 a c = zParts Z (plist Z a c true true 10001 0) a true := by unfold zStep; simp
    refine ⟨ρ', g, v, a1, a2, a3, fun q => ?_, fun q => ?_⟩
    · rw [e2]; exact a4 ⟨by rw [← e1]; exact q.1, by rw [← e2]; exact q.2⟩
    · exact a5 (fun z => q ⟨by rw [e1]; exact z.1, by rw [e2]; exact z.2⟩)
  · rw [if_neg (show ¬ iI 5 = (0 : Int32) by decide), if_neg (show ¬ iI 5 = (1 : Int32) by decide), if_neg (show ¬ iI 5 = (2 : Int32) by decide), if_neg (show ¬ iI 5 = (3 : Int32) by decide), if_neg (show ¬ iI 5 = (4 : Int32) by decide), if_pos (show iI 5 = (5 : Int32) from rfl)]
    obtain ⟨ρ', g, v, a1, a2, a3, a4, a5⟩ := parts_tab N hN S true false (dn := 0) (up := 0) (by omega) (by omega)
    have e1 : zBey Z 5 a c = false := by unfold zBey; simp
    have e0 := plist_0 Z true false 10001 0 (by omega)
    have e2 : zStep Z Y 5 a c = zParts Z (plist Z 0 0 true false 10001 0) 0 true := by unfold zStep; simp
    refine ⟨ρ', g, v, a1, a2, a3, fun q => ?_, fun q => ?_⟩
    · rw [e2]; exact a4 ⟨e0, by rw [← e2]; exact q.2⟩
    · exact a5 (fun z => q ⟨e1, by rw [e2]; exact z.2⟩)
  · rw [if_neg (show ¬ iI 6 = (0 : Int32) by decide), if_neg (show ¬ iI 6 = (1 : Int32) by decide), if_neg (show ¬ iI 6 = (2 : Int32) by decide), if_neg (show ¬ iI 6 = (3 : Int32) by decide), if_neg (show ¬ iI 6 = (4 : Int32) by decide), if_neg (show ¬ iI 6 = (5 : Int32) by decide), if_pos (show iI 6 = (6 : Int32) from rfl)]
    obtain ⟨ρ', g, v, a1, a2, a3, a4, a5⟩ := parts_tab N hN S false true (dn := 0) (up := 0) (by omega) (by omega)
    have e1 : zBey Z 6 a c = false := by unfold zBey; simp
    have e0 := plist_0 Z false true 10001 0 (by omega)
    have e2 : zStep Z Y 6 a c = zParts Z (plist Z 0 0 false true 10001 0) 0 false := by unfold zStep; simp
    refine ⟨ρ', g, v, a1, a2, a3, fun q => ?_, fun q => ?_⟩
    · rw [e2]; exact a4 ⟨e0, by rw [← e2]; exact q.2⟩
    · exact a5 (fun z => q ⟨e1, by rw [e2]; exact z.2⟩)
  · have k7 := k4 rfl
    rw [if_neg (show ¬ iI 7 = (0 : Int32) by decide), if_neg (show ¬ iI 7 = (1 : Int32) by decide), if_neg (show ¬ iI 7 = (2 : Int32) by decide), if_neg (show ¬ iI 7 = (3 : Int32) by decide), if_neg (show ¬ iI 7 = (4 : Int32) by decide), if_neg (show ¬ iI 7 = (5 : Int32) by decide), if_neg (show ¬ iI 7 = (6 : Int32) by decide), if_pos (show iI 7 = (7 : Int32) from rfl)]
    obtain ⟨ρ', g, v, a1, a2, a3, a4, a5⟩ := plus_tab N S k7
    obtain ⟨f1, f2⟩ := fr (W := zPlus Z a) (by unfold zBey; simp) (by unfold zStep; simp) a4 a5
    exact ⟨ρ', g, v, a1, a2, a3, by simpa [zStep] using f1, f2⟩
  · obtain ⟨k, ho1, ho2, ho3⟩ := ho rfl
    subst ho1
    rw [if_neg (show ¬ iI 8 = (0 : Int32) by decide), if_neg (show ¬ iI 8 = (1 : Int32) by decide), if_neg (show ¬ iI 8 = (2 : Int32) by decide), if_neg (show ¬ iI 8 = (3 : Int32) by decide), if_neg (show ¬ iI 8 = (4 : Int32) by decide), if_neg (show ¬ iI 8 = (5 : Int32) by decide), if_neg (show ¬ iI 8 = (6 : Int32) by decide), if_neg (show ¬ iI 8 = (7 : Int32) by decide), if_pos (show iI 8 = (8 : Int32) from rfl), if_neg (show ¬ some k = none by simp)]
    obtain ⟨ρ', g, v, a1, a2, a3, a4, a5⟩ := and_tab N hN B CX CS C4 C5 ho2 ho3
    obtain ⟨f1, f2⟩ := fr (W := zAnd Z Y) (by unfold zBey; simp) (by unfold zStep; simp) a4 a5
    exact ⟨ρ', g, v, a1, a2, a3, by simpa [zStep] using f1, f2⟩
end
/-! STEPS, never changed (label 9), and CHAINS of them -/
def ST (ρ : Nat → Nat) (h : hS) (st : Nat) (p : Int × Int × Int) (Y : Nat → Int) : Prop := (h_k h st = 9 ∧ ρ st = 9 ∧ st < h_x h) ∧ (h_i h st 0 = iI p.1 ∧ h_i h st 1 = iI p.2.1 ∧ h_i h st 2 = iI p.2.2) ∧ okArg p.1 p.2.1 p.2.2 ∧ (p.1 = 8 → ∃ k, h_r h st 3 = some k ∧ KP ρ h k (zK Y) (-Y 0) (zLeast Y) ∧ zInv Y)
theorem ST.keep {ρ ρ' : Nat → Nat} {h g : hS} {R : Nat → Prop} {st : Nat} {p : Int × Int × Int} {Y : Nat → Int} (S : ST ρ h st p Y) (t : tr ρ h R ρ' g) (h9 : ¬ R 9) : ST ρ' g st p Y := by
  obtain ⟨q1, q2, q3, q4⟩ := S
  obtain ⟨a1, a2, a3, a4⟩ := t.2 st q1.2.2
  obtain ⟨a5, a6, a7⟩ := a4 (by rw [q1.2.1]; exact h9)
  have ht := t.1
  refine ⟨⟨a1.trans q1.1, a3.trans q1.2.1, by omega⟩, by rw [a5]; exact q2, q3, fun e => ?_⟩
  obtain ⟨k, z1, z2, z3⟩ := q4 e
  exact ⟨k, by rw [a7]; exact z1, z2.keep t h9, z3⟩
def CH (ρ : Nat → Nat) (l : Nat) (h : hS) (c n : Nat) (p : Nat → Int × Int × Int) (Y : Nat → Nat → Int) : Prop := ∃ sa, (h_k h c = 3 ∧ ρ c = l ∧ c < h_x h) ∧ (h_r h c 0 = some sa ∧ h_k h sa = 64 ∧ ρ sa = l ∧ sa < h_x h ∧ (h_n h sa = 0 ∨ h_n h sa = 40)) ∧ h_i h c 1 = iI n ∧ n ≤ h_n h sa ∧ ∀ i, i < n → ∃ st, h_r h sa i = some st ∧ ST ρ h st (p i) (Y i)
theorem CH.keep {ρ ρ' : Nat → Nat} {l : Nat} {h g : hS} {R : Nat → Prop} {c n : Nat} {p : Nat → Int × Int × Int} {Y : Nat → Nat → Int} (C : CH ρ l h c n p Y) (t : tr ρ h R ρ' g) (h9 : ¬ R 9) (hl : ¬ R l) : CH ρ' l g c n p Y := by
  obtain ⟨sa, q1, q2, q3, q4, q5⟩ := C
  obtain ⟨a1, a2, a3, a4⟩ := t.2 c q1.2.2
  obtain ⟨b1, b2, b3, b4⟩ := t.2 sa q2.2.2.2.1
  obtain ⟨a5, a6, a7⟩ := a4 (by rw [q1.2.1]; exact hl)
  obtain ⟨b5, b6, b7⟩ := b4 (by rw [q2.2.2.1]; exact hl)
  have ht := t.1
  refine ⟨sa, ⟨a1.trans q1.1, a3.trans q1.2.1, by omega⟩, ⟨by rw [a7]; exact q2.1, b1.trans q2.2.1, b3.trans q2.2.2.1, by omega, by rw [b2]; exact q2.2.2.2.2⟩, by rw [a5]; exact q3, by rw [b2]; exact q4, fun i hi => ?_⟩
  obtain ⟨st, z1, z2⟩ := q5 i hi
  exact ⟨st, by rw [b7]; exact z1, z2.keep t h9⟩
section
variable {ρ : Nat → Nat} {l : Nat} {h : hS} {c n : Nat} {p : Nat → Int × Int × Int} {Y : Nat → Nat → Int}
theorem CH.k (C : CH ρ l h c n p Y) : h_k h c = 2 + 1 := by obtain ⟨sa, q, _⟩ := C; exact q.1
theorem CH.sz (C : CH ρ l h c n p Y) : h_i h c 1 = iI n ∧ n ≤ 40 := by
  obtain ⟨sa, q1, q2, q3, q4, q5⟩ := C
  exact ⟨q3, by rcases q2.2.2.2.2 with z | z <;> omega⟩
theorem lnR {β : Type} {kd a m : Nat} {f : Int32 → Option β} (hk : h_k h a = kd) (hn : h_n h a = m) : lnA h kd (some a) f = f (iI m) := by
  show (if h_k h a = kd then f (Int32.ofNat (h_n h a)) else none) = _
  rw [if_pos hk, hn, ← nI_iI]; rfl
theorem aR_i {β : Type} {kd a m j : Nat} {f : Option Nat → Option β} (hk : h_k h a = kd) (hn : h_n h a = m) (hj : j < m) (hm : m < 2 ^ 31) : aR h kd (some a) (iI j) f = f (h_r h a j) := by
  have h1 : inb (iI j) (h_n h a) := by rw [hn, ← nI_iI]; exact nI_in hj hm
  show (if h_k h a = kd ∧ inb (iI j) (h_n h a) then f (h_r h a (iI j).toNatClampNeg) else none) = _
  rw [if_pos ⟨hk, h1⟩, ← nI_iI, nI_clamp (by omega)]
theorem stepAt_in (N : Nat) (C : CH ρ l h c n p Y) {i : Nat} (hi : i < n) : ∃ st, f_Chain_stepAt N h c (iI i) = some (some st, h) ∧ ST ρ h st (p i) (Y i) := by
  have hk := C.k
  have hs := C.sz
  obtain ⟨sa, q1, q2, q3, q4, q5⟩ := C
  obtain ⟨st, z1, z2⟩ := q5 i hi
  refine ⟨st, ?_, z2⟩
  have hn40 : h_n h sa ≤ 40 := by rcases q2.2.2.2.2 with z | z <;> omega
  unfold f_Chain_stepAt f_Chain_stepAt_31
  rw [if_neg (show ¬ iI i < (0 : Int32) from fun q => absurd ((iI_lt (b := 0) (by omega) (by omega)).mp q) (by omega)), gI_k hk, q3, if_neg (fun q => absurd ((iI_le (by omega) (by omega)).mp q) (by omega)), gR_k hk, q2.1, lnR q2.2.1 rfl, if_neg (fun q => absurd ((iI_le (by omega) (by omega)).mp q) (by omega)), gR_k hk, q2.1, aR_i q2.2.1 rfl (by omega) (by omega), z1]
theorem stepAt_out (N : Nat) (C : CH ρ l h c n p Y) {i : Int} (hi : ¬ (0 ≤ i ∧ i < n)) (hi2 : -2147483648 ≤ i ∧ i ≤ 2147483647) : f_Chain_stepAt N h c (iI i) = some (none, h) := by
  have hk := C.k
  have hs := C.sz
  unfold f_Chain_stepAt f_Chain_stepAt_30 f_Chain_stepAt_31
  by_cases h0 : i < 0
  · rw [if_pos (show iI i < (0 : Int32) from (iI_lt (b := 0) hi2 (by omega)).mpr h0)]
  · rw [if_neg (show ¬ iI i < (0 : Int32) from fun q => h0 ((iI_lt (b := 0) hi2 (by omega)).mp q)), gI_k hk, hs.1, if_pos ((iI_le (by omega) hi2).mpr (by omega))]
end
section
variable {ρ : Nat → Nat} {h : hS} {b ba ad : Nat} {Z : Nat → Int}
theorem applyStep_is (N : Nat) (hN : 20000 ≤ N) (S : BS ρ h b ba ad Z) {st : Nat} {p : Int × Int × Int} {Y : Nat → Int} (T : ST ρ h st p Y) :
    ∃ ρ' g v, f_Bench_applyStep N h b (some st) = some (v, g) ∧ tr ρ h RW ρ' g ∧ hm g + brs g b ≤ hm h + brs h b ∧ (stOk Z Y p.1 p.2.1 p.2.2 → v = 1 ∧ BS ρ' g b ba ad (zStep Z Y p.1 p.2.1 p.2.2)) ∧ (¬ stOk Z Y p.1 p.2.1 p.2.2 → v = 0 ∧ BX ρ' g b ba ad) := by
  obtain ⟨q1, q2, q3, q4⟩ := T
  obtain ⟨ρ', g, v, a1, a2, a3, a4, a5⟩ := apply_is N hN S q3 (o := h_r h st 3) (Y := Y) q4
  refine ⟨ρ', g, v, ?_, a2, a3, a4, a5⟩
  have hb : h_k h b = 1 + 1 := by obtain ⟨w, s, lw, ls, B, _⟩ := S; exact B.k
  have hk : h_k h st = 8 + 1 := q1.1
  unfold f_Bench_applyStep f_Bench_applyStep_24 f_Bench_applyStep_31 f_Bench_applyStep_32
  rw [if_neg (by simp), gI_k hk, gI_k hk, gI_k hk, gR_k hk, q2.1, q2.2.1, q2.2.2, cv_k hb, a1, cl_s]
  by_cases hz : stOk Z Y p.1 p.2.1 p.2.2
  · rw [(a4 hz).1, if_neg (by decide), bz_1]
  · rw [(a5 hz).1, if_pos rfl, bz_0]
end
