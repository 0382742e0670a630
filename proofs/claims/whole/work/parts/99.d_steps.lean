/-! ONE STEP OF THE LAW, WITHOUT THE MACHINE (written by wip/gen/genD.py) -/
def PJ (Q A : Nat → Nat) (m o B n : Nat) (h : hS) : Prop := ∃ ρ F ks, JS ρ h Q A m o F ks ∧ ks.length ≤ 120 * n ∧ jr h Q A + 57 * F.2.2.1.1 + 1160 * (512 - n) ≤ B
/-- an asker's step -/
def STA {α β : Type} (Q A : Nat → Nat) (m o B n : Nat) (rK : Option ((α ⊕ Nat) × hS)) (toL : α → Int64) (cd : Nat → Int32) (Jp : Nat → Prop) (fM : hS → Option (β × hS)) (toM : β → Int64) : Prop := ∃ r g, rK = some (r, g) ∧ (∀ j, r = .inr j → Jp j) ∧ hm g ≤ B ∧ ∀ k h1, WR rK toL cd o k h1 → h_k h1 m = 1 ∧ hm h1 ≤ B ∧ ∃ b h2, fM h1 = some (b, h2) ∧ h_i h2 m 1 = k ∧ (k = 0 → h_j h2 o 0 = toM b) ∧ PJ Q A m o B (n + 1) h2
/-- an act's step -/
def STB {α : Type} (Q A : Nat → Nat) (m o B n : Nat) (rK : Option (α × hS)) (fM : hS → Option (α × hS)) : Prop := ∃ a g h2, rK = some (a, g) ∧ h_k g m = 1 ∧ hm g ≤ B ∧ fM g = some (a, h2) ∧ PJ Q A m o B (n + 1) h2
theorem iI_ex (x : Int32) : ∃ c, i32 c ∧ x = iI c := ⟨x.toInt, ⟨by have := x.le_toInt; omega, by have := x.toInt_lt; omega⟩, by unfold iI; rw [Int32.ofInt_toInt]⟩
theorem hcd2 {k : Int32} (h : k = 0 ∨ k = 1 ∨ k = 2) : (k = 0 ∧ k = 0) ∨ (k = 1 ∧ k = (fun j : Nat => if j = 1 then (1 : Int32) else 2) 1) ∨ (k = 2 ∧ k = (fun j : Nat => if j = 1 then (1 : Int32) else 2) 2) := by
  rcases h with h | h | h
  · exact Or.inl ⟨h, h⟩
  · exact Or.inr (Or.inl ⟨h, h⟩)
  · exact Or.inr (Or.inr ⟨h, h⟩)
theorem oc_12 {α : Type} {a : α} {k : Int32} {j : Nat} (e : oc a k = .inr j) : j = 1 ∨ j = 2 := by
  unfold oc at e
  split at e
  · cases e
  · split at e
    · cases e; exact Or.inl rfl
    · cases e; exact Or.inr rfl
theorem oc_1 {α : Type} {a : α} {k : Int32} (hk : k = 0 ∨ k = 1) {j : Nat} (e : oc a k = .inr j) : j = 1 := by
  unfold oc at e
  split at e
  · cases e
  · rename_i h1
    rw [if_pos (hk.resolve_left h1)] at e
    cases e; rfl
theorem oc_2 {α : Type} {a : α} {k : Int32} (hk : k = 0 ∨ k = 2) {j : Nat} (e : oc a k = .inr j) : j = 2 := by
  unfold oc at e
  split at e
  · cases e
  · rename_i h1
    rw [hk.resolve_left h1] at e
    cases e; rfl
theorem zHeavy_un {C : Cs} {c i : Nat} {much w v u : Int} (h1 : zHeavy C c i much w v) (h2 : zHeavy C c i much w u) : v = u := by
  rcases h1 with ⟨a1, a2⟩ | ⟨a1, a2, a3⟩
  · rcases h2 with ⟨b1, b2⟩ | ⟨b1, b2, b3⟩
    · omega
    · exact absurd b2 (a2 u b1.1 b1.2)
  · rcases h2 with ⟨b1, b2⟩ | ⟨b1, b2, b3⟩
    · exact absurd a2 (b2 v a1.1 a1.2)
    · rcases Int.lt_trichotomy v u with q | q | q
      · exact absurd b2 (a3 u q b1.2)
      · exact q
      · exact absurd a2 (b3 v q a1.2)
theorem zSpare_ex (C : Cs) (c : Nat) : ∃ sp : Nat → Int, ∀ i, zSpare C c i (sp i) := by
  have e : ∀ i, ∃ v, zSpare C c i v := fun i => by
    by_cases q : ∀ j, j < (C c).1 → okS (C c).2.1 (C c).2.2 i j
    · exact ⟨_, fun _ => rfl, fun z => absurd q z⟩
    · exact ⟨_, fun z => absurd z q, fun _ => rfl⟩
  exact ⟨fun i => (e i).choose, fun i => (e i).choose_spec⟩
section
variable {ρ : Nat → Nat} {h : hS} {Q A : Nat → Nat} {m o B n : Nat} {F F' : FT} {ks : List Nat} {α β : Type}
theorem KE_un {a a' : α} {k : Int32} {r : Option ((α ⊕ Nat) × hS)} (E : KE ρ h Q F ks a k r) (E' : KE ρ h Q F ks a' k r) (hk : k = 0) : a = a' := by
  obtain ⟨_, _, e, _⟩ := E
  obtain ⟨_, _, e', _⟩ := E'
  rw [e] at e'
  injection e' with e'
  injection e' with e' _
  unfold oc at e'
  rw [if_pos hk, if_pos hk] at e'
  injection e'
theorem ask_S (J : JS ρ h Q A m o F ks) (hl : ks.length ≤ 120 * n) (hB : jr h Q A + 57 * F.2.2.1.1 + 1160 * (512 - n) ≤ B) (hn : n < 512) {a : α} {kc : Int32} {rK : Option ((α ⊕ Nat) × hS)} (E : KY ρ h Q F ks a kc rK) {toL : α → Int64} {cd : Nat → Int32} {Jp : Nat → Prop} {b : β} {kM : Int32} {fM : hS → Option (β × hS)} {toM : β → Int64} (X : ∀ ρ1 h1, RM ρ1 A m h1 F → RX ρ1 A m h1 b F kM (fM h1)) (hcd : (kc = 0 ∧ kM = 0) ∨ (kc = 1 ∧ kM = cd 1) ∨ (kc = 2 ∧ kM = cd 2)) (hc0 : cd 1 ≠ 0 ∧ cd 2 ≠ 0) (hab : kc = 0 → toL a = toM b) (hJ : ∀ j, oc a kc = .inr j → Jp j) : STA Q A m o B n rK toL cd Jp fM toM := by
  obtain ⟨ρ1, g, e1, K1, T1, m1, r1, th1⟩ := id E
  have hg : hm g ≤ B := by
    unfold jr at hB
    unfold kpt at hB
    omega
  have km : h_k g m = 1 := (T1.2 m J.2.1.1.2.1.2).1.trans J.2.1.1.1.1
  refine ⟨_, g, e1, hJ, hg, fun k h1 w => ?_⟩
  obtain ⟨ρ2, h2, x1, x2, x3, x4, x5⟩ := ask_J J E X hcd hc0 w
  have w' : h_k h1 m = 1 ∧ hm h1 ≤ B := by
    rcases w with ⟨a', g', w1, w2, w3⟩ | ⟨j, g', n', w1, w2, w5, w3⟩
    · rw [e1] at w1
      injection w1 with w1
      injection w1 with w1 w4
      subst w4 w3
      exact ⟨km, hg⟩
    · rw [e1] at w1
      injection w1 with w1
      injection w1 with w1 w4
      subst w4 w3
      refine ⟨km, Nat.le_trans ?_ hg⟩
      show 13 * n' + h_s g ≤ 13 * h_x g + h_s g
      omega
  exact ⟨w'.1, w'.2, b, h2, x1, x2, fun q => (x3 q).2.trans (hab (x3 q).1), ρ2, F, ks, x4, by omega, by omega⟩
theorem act_S (J : JS ρ h Q A m o F ks) (hl : ks.length ≤ 120 * n) (hB : jr h Q A + 57 * F.2.2.1.1 + 1160 * (512 - n) ≤ B) (hn : n < 512) {a : α} {d : Nat} {rK : Option (α × hS)} (E : KA ρ h Q ks a F' d rK) {kM : Int32} {fM : hS → Option (α × hS)} (X : ∀ ρ1 h1, RM ρ1 A m h1 F → RX ρ1 A m h1 a F' kM (fM h1)) (hd : d ≤ 1) (hF : 284 * d + 57 * F'.2.2.1.1 ≤ 57 * F.2.2.1.1 + 1160) : STB Q A m o B n rK fM := by
  obtain ⟨ρ1, g1, ks1, e1, K1, T1, l1, m1⟩ := id E
  obtain ⟨g, y1, ρ2, h2, ks2, x1, x2, x3, x4, x5⟩ := act_J J E X
  have eg : g1 = g := by
    rw [e1] at y1
    injection y1 with y1
    injection y1
  subst eg
  refine ⟨a, g1, h2, e1, (T1.2 m J.2.1.1.2.1.2).1.trans J.2.1.1.1.1, ?_, x1, ρ2, F', ks2, x3, by omega, by omega⟩
  unfold jr at hB
  omega
/-- the step of text: an act whose answer goes through a wrapper -/
theorem txt_S (J : JS ρ h Q A m o F ks) (hl : ks.length ≤ 120 * n) (hB : jr h Q A + 57 * F.2.2.1.1 + 1160 * (512 - n) ≤ B) (hn : n < 512) {a : Int32} {d : Nat} {rK : Option ((Int32 ⊕ Nat) × hS)} (E : KA ρ h Q ks (.inl a) F' d rK) {cd : Nat → Int32} {Jp : Nat → Prop} {fM : hS → Option (Int32 × hS)} (X : ∀ ρ1 h1, RM ρ1 A m h1 F → RX ρ1 A m h1 a F' 0 (fM h1)) (hd : d ≤ 40) (hF : 5 * d ≤ F.2.2.1.1) (h0 : F'.2.2.1.1 = 0) : STA Q A m o B n rK (fun v => v.toInt64) cd Jp fM (fun v => v.toInt64) := by
  obtain ⟨K, M, C, O⟩ := J
  obtain ⟨ρ1, g, ks1, e1, K1, T1, l1, m1⟩ := E
  have M1 := M.keep T1 RC_300 RC_30
  have C1 := C.keep T1 RC_30
  have O1 := O.keep T1
  have p1 := M.ptb T1 RC_300
  have km : h_k g m = 1 := (T1.2 m M.1.2.1.2).1.trans M.1.1.1
  have hg : hm g ≤ B := by unfold jr at hB; omega
  refine ⟨_, g, e1, fun j e => (by cases e), hg, fun k h1 w => ?_⟩
  rcases w with ⟨a', g', w1, w2, w3⟩ | ⟨j, g', n', w1, w2, w5, w3⟩
  · rw [e1] at w1
    injection w1 with w1
    injection w1 with w1 w4
    injection w1 with w1
    subst w1 w4 w2 w3
    have t2 : tr ρ1 g (rg 301) ρ1 (s_j g o 0 (a.toInt64)) := tr_sj O1.2.2.1
    obtain ⟨K2, k2⟩ := K1.oth t2 (fun q z => by have : q = 301 := z; omega)
    have M2 := M1.keep t2 (fun z => by have : (300 : Nat) = 301 := z; omega) (fun z => by have : (30 : Nat) = 301 := z; omega)
    have C2 := C1.keep t2 (fun z => by have : (30 : Nat) = 301 := z; omega)
    have p2 := M1.ptb t2 (fun z => by have : (300 : Nat) = 301 := z; omega)
    obtain ⟨ρ2, h2, x1, x2, x3, x4, x5⟩ := ref_J K2 M2 C2 (O1.keep t2) (X _ _ M2)
    refine ⟨km, hg, a, h2, x1, x2, fun _ => ?_, ρ2, F', ks1, x4, by omega, ?_⟩
    · rw [x3, h_j_sj, if_pos rfl]
      unfold vp_updL
      rw [if_pos rfl]
    · unfold jr at x5 hB ⊢
      have : hm (s_j g o 0 (a.toInt64)) = hm g := rfl
      rw [h0]
      omega
  · rw [e1] at w1
    injection w1 with w1
    injection w1 with w1 w4
    cases w1
end
section
variable {ρ : Nat → Nat} {h : hS} {Q : Nat → Nat} {F : FT} {ks : List Nat}
theorem text_0e (N : Nat) {c n : Int} (hc : i32 c) (h1 : ¬ (0 ≤ c ∧ c ≤ 3)) : f_K_text N h (Q 0) (iI c) (iI n) = some (.inr 1, th h) := by
  unfold f_K_text
  rw [ncost_n N h hc h1, clT_r]
theorem text_1e (N : Nat) (K : KS ρ h Q F ks) {c n : Int} (hn : i32 n) (h1 : 0 ≤ c ∧ c ≤ 3) (h2 : ¬ (0 ≤ n ∧ n ≤ F.2.2.1.1)) : f_K_text N h (Q 0) (iI c) (iI n) = some (.inr 2, th h) := by
  obtain ⟨q1, tp, q2, q3, q4, q5, q6, q7, q8⟩ := K.w.2.2.2.2.2.1
  unfold i32 at hn
  unfold f_K_text f_K_text_4 f_K_text_20 f_K_text_21
  rw [ncost_y N h h1, clT_l]
  by_cases q : n < 0
  · rw [if_pos (show iI n < (0 : Int32) from (iI_lt (b := 0) hn (by omega)).mpr q), fit_0, clT_r]
  · rw [if_neg (show ¬ iI n < (0 : Int32) from fun z => q ((iI_lt (b := 0) hn (by omega)).mp z)), gI_k K.x.1, q1, if_pos ((iI_lt (by omega) hn).mpr (by omega)), fit_0, clT_r]
end
section
variable {h : hS} {Q A : Nat → Nat} {m o B n : Nat}
theorem op_text (N : Nat) (hN : 100000 ≤ N) (P : PJ Q A m o B n h) (hn : n < 512) (x1 : Int32) (x2 : Int32) : STA Q A m o B n (f_K_text N h (Q 0) x1 x2) (fun v => v.toInt64) (fun j => if j = 1 then 1 else 2) (fun j => j = 1 ∨ j = 2) (fun h1 => f_M_text N h1 m x1 x2) (fun v => v.toInt64) := by
  obtain ⟨ρ, F, ks, J, hl, hB⟩ := P
  obtain ⟨c1, i1, rfl⟩ := iI_ex x1
  obtain ⟨c2, i2, rfl⟩ := iI_ex x2
  have hC := J.2.2.1
  have hks : ks.length + 50 < N := by omega
  by_cases q : 0 ≤ c1 ∧ c1 ≤ 3
  · by_cases t : 0 ≤ c2 ∧ c2 ≤ F.2.2.1.1
    · have e2 : c2 = ((c2.toNat : Nat) : Int) := by omega
      have hn2 : c2.toNat ≤ F.2.2.1.1 := by omega
      rw [text_2 N J.1 q t]
      have z := zRd_ok F.2.2.1.2 c2.toNat c1 41 0 0 (by omega) (by omega)
      have hd1 : (zText F.2.2.1.2 c2.toNat c1).1.length ≤ 40 := z.1
      have hd2 : 5 * (zText F.2.2.1.2 c2.toNat c1).1.length ≤ F.2.2.1.1 := by
        have : 5 * (zText F.2.2.1.2 c2.toNat c1).1.length + 0 ≤ c2.toNat := z.2.1
        omega
      have hT : ∀ i, i < F.2.2.1.1 → 0 ≤ F.2.2.1.2 i ∧ F.2.2.1.2 i ≤ 255 := fun i hi => by
        obtain ⟨q1, tp, q2, q3, q4, q5, q6, q7, q8⟩ := J.1.w.2.2.2.2.2.1
        exact (q8 i hi).1
      obtain ⟨k1, k2, k3⟩ := text_24 N (by omega) J.1 hC hks q hn2
      have TM := fun ρ1 h1 (M : RM ρ1 A m h1 F) => text_M N (by omega) M q hn2 hT
      rw [e2]
      rw [show ((((c2.toNat : Nat) : Int).toNat : Nat) : Int) = ((c2.toNat : Nat) : Int) by omega]
      by_cases f : (zText F.2.2.1.2 c2.toNat c1).2.1 = 0
      · by_cases ok : okX (txX F.1.1 (zText F.2.2.1.2 c2.toNat c1).1)
        · exact txt_S J hl hB hn (k2 f ok) (fun ρ1 h1 M => (TM ρ1 h1 M).2.1 f ok) hd1 hd2 rfl
        · obtain ⟨j, hj, j1, j2, E⟩ := k3 f ok
          exact txt_S J hl hB hn E (fun ρ1 h1 M => (TM ρ1 h1 M).2.2 f j hj j1 j2) hd1 hd2 rfl
      · exact txt_S J hl hB hn (k1 f) (fun ρ1 h1 M => (TM ρ1 h1 M).1 f) hd1 hd2 rfl
    · have e : f_K_text N h (Q 0) (iI c1) (iI c2) = some (.inr 2, th h) := text_1e N J.1 i2 q t
      exact ask_S J hl hB hn ((KE.t2 (a := (0 : Int32)) J.1 e).y J.1) (fun ρ1 h1 M => text_2M N M i2 q t) (by decide) (by decide) (fun _ => rfl) (fun j e => oc_12 e)
  · have e : f_K_text N h (Q 0) (iI c1) (iI c2) = some (.inr 1, th h) := text_0e N i1 q
    exact ask_S J hl hB hn ((KE.t1 (a := (0 : Int32)) J.1 e).y J.1) (fun ρ1 h1 M => text_1M N M i1 q) (by decide) (by decide) (fun _ => rfl) (fun j e => oc_12 e)
theorem op_count (N : Nat) (hN : 100000 ≤ N) (P : PJ Q A m o B n h) (hn : n < 512) (x1 : Int32) : STA Q A m o B n (f_K_count N h (Q 0) x1) (fun v => v.toInt64) (fun j => if j = 1 then 1 else 2) (fun j => j = 1) (fun h1 => f_M_count N h1 m x1) (fun v => v.toInt64) := by
  obtain ⟨ρ, F, ks, J, hl, hB⟩ := P
  obtain ⟨c1, i1, rfl⟩ := iI_ex x1
  exact ask_S J hl hB hn ((count_K N J.1 i1).y J.1) (fun ρ1 h1 M => count_M N M i1) (hcd2 (by (repeat' split) <;> decide)) (by decide) (fun _ => rfl) (fun j e => oc_1 (by (repeat' split) <;> decide) e)
theorem op_step (N : Nat) (hN : 100000 ≤ N) (P : PJ Q A m o B n h) (hn : n < 512) (x1 : Int32) (x2 : Int32) (x3 : Int32) : STA Q A m o B n (f_K_step N h (Q 0) x1 x2 x3) (fun v => v.toInt64) (fun j => if j = 1 then 1 else 2) (fun j => j = 1) (fun h1 => f_M_step N h1 m x1 x2 x3) (fun v => v.toInt64) := by
  obtain ⟨ρ, F, ks, J, hl, hB⟩ := P
  obtain ⟨c1, i1, rfl⟩ := iI_ex x1
  obtain ⟨c2, i2, rfl⟩ := iI_ex x2
  obtain ⟨c3, i3, rfl⟩ := iI_ex x3
  by_cases q : isSt F.1.1 c1 c2 ∧ (0 ≤ c3 ∧ c3 ≤ 2)
  · exact ask_S J hl hB hn (((stepq_K N J.1 i1 i2 i3).1 q).y J.1) (fun ρ1 h1 M => (step_M N M i1 i2 i3).1 q) (hcd2 (by (repeat' split) <;> decide)) (by decide) (fun _ => rfl) (fun j e => oc_1 (by (repeat' split) <;> decide) e)
  · exact ask_S J hl hB hn (((stepq_K N J.1 i1 i2 i3).2 q).y J.1) (fun ρ1 h1 M => (step_M N M i1 i2 i3).2 q) (hcd2 (by (repeat' split) <;> decide)) (by decide) (fun _ => rfl) (fun j e => oc_1 (by (repeat' split) <;> decide) e)
theorem op_at (N : Nat) (hN : 100000 ≤ N) (P : PJ Q A m o B n h) (hn : n < 512) (x1 : Int32) (x2 : Int32) : STA Q A m o B n (f_K_at N h (Q 0) x1 x2) (fun v => v) (fun j => if j = 1 then 1 else 2) (fun j => j = 1 ∨ j = 2) (fun h1 => f_M_at N h1 m x1 x2) (fun v => v) := by
  obtain ⟨ρ, F, ks, J, hl, hB⟩ := P
  obtain ⟨c1, i1, rfl⟩ := iI_ex x1
  obtain ⟨c2, i2, rfl⟩ := iI_ex x2
  exact ask_S J hl hB hn ((at_K N (by omega) J.1 i1 i2).y J.1) (fun ρ1 h1 M => at_M N (by omega) M i1 i2) (hcd2 (by (repeat' split) <;> decide)) (by decide) (fun _ => rfl) (fun j e => oc_12 e)
theorem op_least (N : Nat) (hN : 100000 ≤ N) (P : PJ Q A m o B n h) (hn : n < 512) (x1 : Int32) : STA Q A m o B n (f_K_least N h (Q 0) x1) (fun v => v) (fun j => if j = 1 then 1 else 2) (fun j => j = 1) (fun h1 => f_M_least N h1 m x1) (fun v => v) := by
  obtain ⟨ρ, F, ks, J, hl, hB⟩ := P
  obtain ⟨c1, i1, rfl⟩ := iI_ex x1
  exact ask_S J hl hB hn ((least_K N J.1 i1).y J.1) (fun ρ1 h1 M => least_M N (by omega) M i1) (hcd2 (by (repeat' split) <;> decide)) (by decide) (fun _ => rfl) (fun j e => oc_1 (by (repeat' split) <;> decide) e)
theorem op_flat (N : Nat) (hN : 100000 ≤ N) (P : PJ Q A m o B n h) (hn : n < 512) (x1 : Int32) (x2 : Int32) : STA Q A m o B n (f_K_flat N h (Q 0) x1 x2) (fun v => v.toInt64) (fun j => if j = 1 then 1 else 2) (fun j => j = 1) (fun h1 => f_M_flat N h1 m x1 x2) (fun v => v.toInt64) := by
  obtain ⟨ρ, F, ks, J, hl, hB⟩ := P
  obtain ⟨c1, i1, rfl⟩ := iI_ex x1
  obtain ⟨c2, i2, rfl⟩ := iI_ex x2
  exact ask_S J hl hB hn ((flat_K N (by omega) J.1 i1 i2).y J.1) (fun ρ1 h1 M => flat_M N (by omega) M i1 i2) (hcd2 (by (repeat' split) <;> decide)) (by decide) (fun _ => rfl) (fun j e => oc_1 (by (repeat' split) <;> decide) e)
theorem op_kink (N : Nat) (hN : 100000 ≤ N) (P : PJ Q A m o B n h) (hn : n < 512) (x1 : Int32) (x2 : Int32) (x3 : Int32) : STA Q A m o B n (f_K_kink N h (Q 0) x1 x2 x3) (fun v => v.toInt64) (fun j => if j = 1 then 1 else 2) (fun j => j = 1) (fun h1 => f_M_kink N h1 m x1 x2 x3) (fun v => v.toInt64) := by
  obtain ⟨ρ, F, ks, J, hl, hB⟩ := P
  obtain ⟨c1, i1, rfl⟩ := iI_ex x1
  obtain ⟨c2, i2, rfl⟩ := iI_ex x2
  obtain ⟨c3, i3, rfl⟩ := iI_ex x3
  exact ask_S J hl hB hn ((kink_K N J.1 i1 i2 i3).y J.1) (fun ρ1 h1 M => kink_M N (by omega) M i1 i2 i3) (hcd2 (by (repeat' split) <;> decide)) (by decide) (fun _ => rfl) (fun j e => oc_1 (by (repeat' split) <;> decide) e)
theorem op_slope (N : Nat) (hN : 100000 ≤ N) (P : PJ Q A m o B n h) (hn : n < 512) (x1 : Int32) (x2 : Int32) (x3 : Int32) : STA Q A m o B n (f_K_slope N h (Q 0) x1 x2 x3) (fun v => v.toInt64) (fun j => if j = 1 then 1 else 2) (fun j => j = 1 ∨ j = 2) (fun h1 => f_M_slope N h1 m x1 x2 x3) (fun v => v.toInt64) := by
  obtain ⟨ρ, F, ks, J, hl, hB⟩ := P
  obtain ⟨c1, i1, rfl⟩ := iI_ex x1
  obtain ⟨c2, i2, rfl⟩ := iI_ex x2
  obtain ⟨c3, i3, rfl⟩ := iI_ex x3
  exact ask_S J hl hB hn ((slope_K N (by omega) J.1 i1 i2 i3).y J.1) (fun ρ1 h1 M => slope_M N (by omega) M i1 i2 i3) (hcd2 (by (repeat' split) <;> decide)) (by decide) (fun _ => rfl) (fun j e => oc_12 e)
theorem op_path (N : Nat) (hN : 100000 ≤ N) (P : PJ Q A m o B n h) (hn : n < 512) (x1 : Int32) (x2 : Int32) (x3 : Int32) : STA Q A m o B n (f_K_path N h (Q 0) x1 x2 x3) (fun v => v.toInt64) (fun j => if j = 1 then 1 else 2) (fun j => j = 1 ∨ j = 2) (fun h1 => f_M_path N h1 m x1 x2 x3) (fun v => v.toInt64) := by
  obtain ⟨ρ, F, ks, J, hl, hB⟩ := P
  obtain ⟨c1, i1, rfl⟩ := iI_ex x1
  obtain ⟨c2, i2, rfl⟩ := iI_ex x2
  obtain ⟨c3, i3, rfl⟩ := iI_ex x3
  exact ask_S J hl hB hn ((path_K N (by omega) J.1 i1 i2 i3).y J.1) (fun ρ1 h1 M => path_M N (by omega) M i1 i2 i3) (hcd2 (by (repeat' split) <;> decide)) (by decide) (fun _ => rfl) (fun j e => oc_12 e)
theorem op_paid (N : Nat) (hN : 100000 ≤ N) (P : PJ Q A m o B n h) (hn : n < 512) (x1 : Int32) (x2 : Int32) (x3 : Int32) : STA Q A m o B n (f_K_paid N h (Q 0) x1 x2 x3) (fun v => v) (fun j => if j = 1 then 1 else 2) (fun j => j = 1 ∨ j = 2) (fun h1 => f_M_paid N h1 m x1 x2 x3) (fun v => v) := by
  obtain ⟨ρ, F, ks, J, hl, hB⟩ := P
  obtain ⟨c1, i1, rfl⟩ := iI_ex x1
  obtain ⟨c2, i2, rfl⟩ := iI_ex x2
  obtain ⟨c3, i3, rfl⟩ := iI_ex x3
  by_cases q : isSt F.1.1 c1 c3
  · exact ask_S J hl hB hn (((paid_K N (by omega) J.1 i1 i2 i3).2 q).y J.1) (fun ρ1 h1 M => (paid_M N (by omega) M i1 i2 i3).2 q) (hcd2 (by (repeat' split) <;> decide)) (by decide) (fun _ => rfl) (fun j e => oc_12 e)
  · exact ask_S J hl hB hn (((paid_K N (by omega) J.1 i1 i2 i3).1 q).y J.1) (fun ρ1 h1 M => (paid_M N (by omega) M i1 i2 i3).1 q) (hcd2 (by (repeat' split) <;> decide)) (by decide) (fun _ => rfl) (fun j e => oc_12 e)
theorem op_off (N : Nat) (hN : 100000 ≤ N) (P : PJ Q A m o B n h) (hn : n < 512) (x1 : Int32) (x2 : Int32) (x3 : Int32) : STA Q A m o B n (f_K_off N h (Q 0) x1 x2 x3) (fun v => v.toInt64) (fun j => if j = 1 then 1 else 2) (fun j => j = 1 ∨ j = 2) (fun h1 => f_M_off N h1 m x1 x2 x3) (fun v => v.toInt64) := by
  obtain ⟨ρ, F, ks, J, hl, hB⟩ := P
  obtain ⟨c1, i1, rfl⟩ := iI_ex x1
  obtain ⟨c2, i2, rfl⟩ := iI_ex x2
  obtain ⟨c3, i3, rfl⟩ := iI_ex x3
  obtain ⟨r, hr, -⟩ := off_M N (by omega) J.2.1 i1 i2 i3
  refine ask_S J hl hB hn ((off_K N (by omega) J.1 i1 i2 i3 hr).y J.1) (fun ρ1 h1 M => ?_) (b := if ((0 ≤ c1 ∧ c1 ≤ 3) ∧ (0 ≤ c3 ∧ c3 ≤ 1)) ∧ (0 ≤ c2 ∧ c2 ≤ 1000000) then iI r else 0) (hcd2 (by (repeat' split) <;> decide)) (by decide) (fun _ => rfl) (fun j e => oc_12 e)
  obtain ⟨r', hr', X⟩ := off_M N (by omega) M i1 i2 i3
  by_cases q : ((0 ≤ c1 ∧ c1 ≤ 3) ∧ (0 ≤ c3 ∧ c3 ≤ 1)) ∧ (0 ≤ c2 ∧ c2 ≤ 1000000)
  · have e := KE_un (off_K N (by omega) J.1 i1 i2 i3 hr) (off_K N (by omega) J.1 i1 i2 i3 hr') (by rw [if_pos q.1, if_pos q.2])
    rw [e]
    exact X
  · rw [if_neg q] at X ⊢
    exact X
theorem op_split (N : Nat) (hN : 100000 ≤ N) (P : PJ Q A m o B n h) (hn : n < 512) (x1 : Int32) (x2 : Int32) (x3 : Int32) : STA Q A m o B n (f_K_split N h (Q 0) x1 x2 x3) (fun v => v) (fun j => if j = 1 then 1 else 2) (fun j => j = 1 ∨ j = 2) (fun h1 => f_M_split N h1 m x1 x2 x3) (fun v => v) := by
  obtain ⟨ρ, F, ks, J, hl, hB⟩ := P
  obtain ⟨c1, i1, rfl⟩ := iI_ex x1
  obtain ⟨c2, i2, rfl⟩ := iI_ex x2
  obtain ⟨c3, i3, rfl⟩ := iI_ex x3
  obtain ⟨s, hs, -⟩ := split_M N (by omega) J.2.1 i1 i2 i3
  refine ask_S J hl hB hn ((split_K N (by omega) J.1 i1 i2 i3 hs).y J.1) (fun ρ1 h1 M => ?_) (b := if ((0 ≤ c1 ∧ c1 ≤ 3) ∧ (0 ≤ c2 ∧ c2 ≤ 3)) ∧ (-100000 ≤ c3 ∧ c3 ≤ 100000) then lI (s * c3 + gSum F.1.1 [c1.toNat, c2.toNat] s) else 0) (hcd2 (by (repeat' split) <;> decide)) (by decide) (fun _ => rfl) (fun j e => oc_12 e)
  obtain ⟨s', hs', X⟩ := split_M N (by omega) M i1 i2 i3
  by_cases q : ((0 ≤ c1 ∧ c1 ≤ 3) ∧ (0 ≤ c2 ∧ c2 ≤ 3)) ∧ (-100000 ≤ c3 ∧ c3 ≤ 100000)
  · cases zShS_un (hs q) (hs' q)
    exact X
  · rw [if_neg q] at X ⊢
    exact X
theorem op_where (N : Nat) (hN : 100000 ≤ N) (P : PJ Q A m o B n h) (hn : n < 512) (x1 : Int32) (x2 : Int32) (x3 : Int32) : STA Q A m o B n (f_K_where N h (Q 0) x1 x2 x3) (fun v => v.toInt64) (fun j => if j = 1 then 1 else 2) (fun j => j = 1 ∨ j = 2) (fun h1 => f_M_where N h1 m x1 x2 x3) (fun v => v.toInt64) := by
  obtain ⟨ρ, F, ks, J, hl, hB⟩ := P
  obtain ⟨c1, i1, rfl⟩ := iI_ex x1
  obtain ⟨c2, i2, rfl⟩ := iI_ex x2
  obtain ⟨c3, i3, rfl⟩ := iI_ex x3
  obtain ⟨s, hs, -⟩ := where_M N (by omega) J.2.1 i1 i2 i3
  refine ask_S J hl hB hn ((where_K N (by omega) J.1 i1 i2 i3 hs).y J.1) (fun ρ1 h1 M => ?_) (b := if ((0 ≤ c1 ∧ c1 ≤ 3) ∧ (0 ≤ c2 ∧ c2 ≤ 3)) ∧ (-100000 ≤ c3 ∧ c3 ≤ 100000) then iI (zWhr (zC F.1.1 c1.toNat) (zC F.1.1 c2.toNat) c3 s) else 0) (hcd2 (by (repeat' split) <;> decide)) (by decide) (fun _ => rfl) (fun j e => oc_12 e)
  obtain ⟨s', hs', X⟩ := where_M N (by omega) M i1 i2 i3
  by_cases q : ((0 ≤ c1 ∧ c1 ≤ 3) ∧ (0 ≤ c2 ∧ c2 ≤ 3)) ∧ (-100000 ≤ c3 ∧ c3 ≤ 100000)
  · cases zShS_un (hs q) (hs' q)
    exact X
  · rw [if_neg q] at X ⊢
    exact X
theorem op_shared (N : Nat) (hN : 100000 ≤ N) (P : PJ Q A m o B n h) (hn : n < 512) (x1 : Int32) (x2 : Int32) : STA Q A m o B n (f_K_shared N h (Q 0) x1 x2) (fun v => v) (fun _ => 1) (fun j => j = 2) (fun h1 => f_M_shared N h1 m x1 x2) (fun v => v) := by
  obtain ⟨ρ, F, ks, J, hl, hB⟩ := P
  obtain ⟨c1, i1, rfl⟩ := iI_ex x1
  obtain ⟨c2, i2, rfl⟩ := iI_ex x2
  obtain ⟨s, hs, -⟩ := shared_M N (by omega) J.2.1 i1 i2
  refine ask_S J hl hB hn ((shared_K N (by omega) J.1 i1 i2 hs).y J.1) (fun ρ1 h1 M => ?_) (b := if (1 ≤ c1 ∧ c1 ≤ 15) ∧ (-100000 ≤ c2 ∧ c2 ≤ 100000) then lI (s * c2 + gSum F.1.1 (shL c1 4 0) s) else 0) (kM := if (1 ≤ c1 ∧ c1 ≤ 15) ∧ (-100000 ≤ c2 ∧ c2 ≤ 100000) then 0 else 1) (by split <;> decide) (by decide) (fun _ => rfl) (fun j e => oc_2 (by (repeat' split) <;> decide) e)
  obtain ⟨s', hs', X⟩ := shared_M N (by omega) M i1 i2
  by_cases q : (1 ≤ c1 ∧ c1 ≤ 15) ∧ (-100000 ≤ c2 ∧ c2 ≤ 100000)
  · cases zShS_un (hs q) (hs' q)
    exact X
  · rw [if_neg q] at X ⊢
    exact X
theorem op_stretch (N : Nat) (hN : 100000 ≤ N) (P : PJ Q A m o B n h) (hn : n < 512) (x1 : Int32) (x2 : Int32) : STA Q A m o B n (f_K_stretch N h (Q 0) x1 x2) (fun v => v.toInt64) (fun j => if j = 1 then 1 else 2) (fun j => j = 1 ∨ j = 2) (fun h1 => f_M_stretch N h1 m x1 x2) (fun v => v.toInt64) := by
  obtain ⟨ρ, F, ks, J, hl, hB⟩ := P
  obtain ⟨c1, i1, rfl⟩ := iI_ex x1
  obtain ⟨c2, i2, rfl⟩ := iI_ex x2
  exact ask_S J hl hB hn ((stretch_K N (by omega) J.1 i1 i2).y J.1) (fun ρ1 h1 M => stretch_M N (by omega) M i1 i2) (hcd2 (by (repeat' split) <;> decide)) (by decide) (fun _ => rfl) (fun j e => oc_12 e)
theorem op_leads (N : Nat) (hN : 100000 ≤ N) (P : PJ Q A m o B n h) (hn : n < 512) (x1 : Int32) (x2 : Int32) (x3 : Int32) : STA Q A m o B n (f_K_leads N h (Q 0) x1 x2 x3) (fun v => v.toInt64) (fun j => if j = 1 then 1 else 2) (fun j => j = 1) (fun h1 => f_M_leads N h1 m x1 x2 x3) (fun v => v.toInt64) := by
  obtain ⟨ρ, F, ks, J, hl, hB⟩ := P
  obtain ⟨c1, i1, rfl⟩ := iI_ex x1
  obtain ⟨c2, i2, rfl⟩ := iI_ex x2
  obtain ⟨c3, i3, rfl⟩ := iI_ex x3
  exact ask_S J hl hB hn ((leads_K N (by omega) J.1 i1 i2 i3).y J.1) (fun ρ1 h1 M => leads_M N (by omega) M i1 i2 i3) (hcd2 (by (repeat' split) <;> decide)) (by decide) (fun _ => rfl) (fun j e => oc_1 (by (repeat' split) <;> decide) e)
theorem op_against (N : Nat) (hN : 100000 ≤ N) (P : PJ Q A m o B n h) (hn : n < 512) (x1 : Int32) (x2 : Int32) (x3 : Int32) : STA Q A m o B n (f_K_against N h (Q 0) x1 x2 x3) (fun v => v) (fun j => if j = 1 then 1 else 2) (fun j => j = 1 ∨ j = 2) (fun h1 => f_M_against N h1 m x1 x2 x3) (fun v => v) := by
  obtain ⟨ρ, F, ks, J, hl, hB⟩ := P
  obtain ⟨c1, i1, rfl⟩ := iI_ex x1
  obtain ⟨c2, i2, rfl⟩ := iI_ex x2
  obtain ⟨c3, i3, rfl⟩ := iI_ex x3
  exact ask_S J hl hB hn ((against_K N (by omega) J.1 i1 i2 i3).y J.1) (fun ρ1 h1 M => against_M N (by omega) M i1 i2 i3) (hcd2 (by (repeat' split) <;> decide)) (by decide) (fun _ => rfl) (fun j e => oc_12 e)
theorem op_meet (N : Nat) (hN : 100000 ≤ N) (P : PJ Q A m o B n h) (hn : n < 512) (x1 : Int32) (x2 : Int32) : STA Q A m o B n (f_K_meet N h (Q 0) x1 x2) (fun v => v.toInt64) (fun j => if j = 1 then 1 else 2) (fun j => j = 1) (fun h1 => f_M_meet N h1 m x1 x2) (fun v => v.toInt64) := by
  obtain ⟨ρ, F, ks, J, hl, hB⟩ := P
  obtain ⟨c1, i1, rfl⟩ := iI_ex x1
  obtain ⟨c2, i2, rfl⟩ := iI_ex x2
  by_cases q : (0 ≤ c1 ∧ c1 ≤ 3) ∧ (0 ≤ c2 ∧ c2 ≤ 3)
  · obtain ⟨r, hr, -⟩ := (meet_M N (by omega) J.2.1 i1 i2).2 q
    refine ask_S J hl hB hn (((meet_K N (by omega) J.1 i1 i2).2 q r hr).y J.1) (fun ρ1 h1 M => ?_) (b := iI r) (kM := 0) (hcd2 (by (repeat' split) <;> decide)) (by decide) (fun _ => rfl) (fun j e => oc_1 (by (repeat' split) <;> decide) e)
    obtain ⟨r', hr', X⟩ := (meet_M N (by omega) M i1 i2).2 q
    cases zMt_un hr hr'
    exact X
  · exact ask_S J hl hB hn (((meet_K N (by omega) J.1 i1 i2).1 q).y J.1) (fun ρ1 h1 M => (meet_M N (by omega) M i1 i2).1 q) (hcd2 (by (repeat' split) <;> decide)) (by decide) (fun _ => rfl) (fun j e => oc_1 (by (repeat' split) <;> decide) e)
theorem op_heaviest (N : Nat) (hN : 100000 ≤ N) (P : PJ Q A m o B n h) (hn : n < 512) (x1 : Int32) (x2 : Int32) (x3 : Int32) : STA Q A m o B n (f_K_heaviest N h (Q 0) x1 x2 x3) (fun v => v.toInt64) (fun j => if j = 1 then 1 else 2) (fun j => j = 1 ∨ j = 2) (fun h1 => f_M_heaviest N h1 m x1 x2 x3) (fun v => v.toInt64) := by
  obtain ⟨ρ, F, ks, J, hl, hB⟩ := P
  obtain ⟨c1, i1, rfl⟩ := iI_ex x1
  obtain ⟨c2, i2, rfl⟩ := iI_ex x2
  obtain ⟨c3, i3, rfl⟩ := iI_ex x3
  by_cases q : isSt F.1.1 c1 c2 ∧ ((F.1.1 c1.toNat).2.1 c2.toNat).1 ≤ 2
  · by_cases t : 0 ≤ c3 ∧ c3 ≤ 100000000
    · obtain ⟨v, hv, E⟩ := ((heaviest_K N (by omega) J.1 i1 i2 i3).2 q).2 t
      refine ask_S J hl hB hn (E.y J.1) (fun ρ1 h1 M => ?_) (b := iI v) (kM := 0) (hcd2 (by (repeat' split) <;> decide)) (by decide) (fun _ => rfl) (fun j e => oc_12 e)
      obtain ⟨v', hv', X⟩ := ((heaviest_M N (by omega) M i1 i2 i3).2 q).2 t
      cases zHeavy_un hv hv'
      exact X
    · exact ask_S J hl hB hn ((((heaviest_K N (by omega) J.1 i1 i2 i3).2 q).1 t).y J.1) (fun ρ1 h1 M => ((heaviest_M N (by omega) M i1 i2 i3).2 q).1 t) (hcd2 (by (repeat' split) <;> decide)) (by decide) (fun _ => rfl) (fun j e => oc_12 e)
  · exact ask_S J hl hB hn (((heaviest_K N (by omega) J.1 i1 i2 i3).1 q).y J.1) (fun ρ1 h1 M => (heaviest_M N (by omega) M i1 i2 i3).1 q) (hcd2 (by (repeat' split) <;> decide)) (by decide) (fun _ => rfl) (fun j e => oc_12 e)
theorem op_spared (N : Nat) (hN : 100000 ≤ N) (P : PJ Q A m o B n h) (hn : n < 512) (x1 : Int32) (x2 : Int32) : STA Q A m o B n (f_K_spared N h (Q 0) x1 x2) (fun v => v) (fun j => if j = 1 then 1 else 2) (fun j => j = 1) (fun h1 => f_M_spared N h1 m x1 x2) (fun v => v) := by
  obtain ⟨ρ, F, ks, J, hl, hB⟩ := P
  obtain ⟨c1, i1, rfl⟩ := iI_ex x1
  obtain ⟨c2, i2, rfl⟩ := iI_ex x2
  by_cases q : isSt F.1.1 c1 c2
  · obtain ⟨v, hv, E⟩ := (spared_K N (by omega) J.1 i1 i2).1 q
    refine ask_S J hl hB hn (E.y J.1) (fun ρ1 h1 M => ?_) (b := lI v) (kM := 0) (hcd2 (by (repeat' split) <;> decide)) (by decide) (fun _ => rfl) (fun j e => oc_1 (by (repeat' split) <;> decide) e)
    obtain ⟨v', hv', X⟩ := (spared_M N (by omega) M i1 i2).1 q
    cases zSpare_un hv hv'
    exact X
  · exact ask_S J hl hB hn (((spared_K N (by omega) J.1 i1 i2).2 q).y J.1) (fun ρ1 h1 M => (spared_M N (by omega) M i1 i2).2 q) (hcd2 (by (repeat' split) <;> decide)) (by decide) (fun _ => rfl) (fun j e => oc_1 (by (repeat' split) <;> decide) e)
theorem op_dearest (N : Nat) (hN : 100000 ≤ N) (P : PJ Q A m o B n h) (hn : n < 512) (x1 : Int32) : STA Q A m o B n (f_K_dearest N h (Q 0) x1) (fun v => v.toInt64) (fun j => if j = 1 then 1 else 2) (fun j => j = 1) (fun h1 => f_M_dearest N h1 m x1) (fun v => v.toInt64) := by
  obtain ⟨ρ, F, ks, J, hl, hB⟩ := P
  obtain ⟨c1, i1, rfl⟩ := iI_ex x1
  obtain ⟨sp, hsp⟩ := zSpare_ex F.1.1 c1.toNat
  exact ask_S J hl hB hn ((dearest_K N (by omega) J.1 i1 sp (fun i _ => hsp i)).y J.1) (fun ρ1 h1 M => dearest_M N (by omega) M i1 sp (fun i _ => hsp i)) (hcd2 (by (repeat' split) <;> decide)) (by decide) (fun _ => rfl) (fun j e => oc_1 (by (repeat' split) <;> decide) e)
theorem op_gap (N : Nat) (hN : 100000 ≤ N) (P : PJ Q A m o B n h) (hn : n < 512) (x1 : Int32) (x2 : Int32) : STA Q A m o B n (f_K_gap N h (Q 0) x1 x2) (fun v => v) (fun j => if j = 1 then 1 else 2) (fun j => j = 1) (fun h1 => f_M_gap N h1 m x1 x2) (fun v => v) := by
  obtain ⟨ρ, F, ks, J, hl, hB⟩ := P
  obtain ⟨c1, i1, rfl⟩ := iI_ex x1
  obtain ⟨c2, i2, rfl⟩ := iI_ex x2
  exact ask_S J hl hB hn ((gap_K N (by omega) J.1 i1 i2).y J.1) (fun ρ1 h1 M => gap_M N (by omega) M i1 i2) (hcd2 (by (repeat' split) <;> decide)) (by decide) (fun _ => rfl) (fun j e => oc_1 (by (repeat' split) <;> decide) e)
theorem op_alike (N : Nat) (hN : 100000 ≤ N) (P : PJ Q A m o B n h) (hn : n < 512) (x1 : Int32) (x2 : Int32) : STA Q A m o B n (f_K_alike N h (Q 0) x1 x2) (fun v => v.toInt64) (fun j => if j = 1 then 1 else 2) (fun j => j = 1) (fun h1 => f_M_alike N h1 m x1 x2) (fun v => v.toInt64) := by
  obtain ⟨ρ, F, ks, J, hl, hB⟩ := P
  obtain ⟨c1, i1, rfl⟩ := iI_ex x1
  obtain ⟨c2, i2, rfl⟩ := iI_ex x2
  by_cases q : (0 ≤ c1 ∧ c1 ≤ 3) ∧ (0 ≤ c2 ∧ c2 ≤ 3)
  · obtain ⟨r, r1, r2, E⟩ := (alike_K N (by omega) J.1 i1 i2).2 q
    refine ask_S J hl hB hn (E.y J.1) (fun ρ1 h1 M => ?_) (b := r) (kM := 0) (hcd2 (by (repeat' split) <;> decide)) (by decide) (fun _ => rfl) (fun j e => oc_1 (by (repeat' split) <;> decide) e)
    obtain ⟨r', r1', r2', X⟩ := (alike_M N (by omega) M i1 i2).2 q
    have e : r' = r := by
      by_cases t : tEq (zC F.1.1 c1.toNat) (zC F.1.1 c2.toNat)
      · rw [r1 t, r1' t]
      · rw [r2 t, r2' t]
    subst e
    exact X
  · exact ask_S J hl hB hn (((alike_K N (by omega) J.1 i1 i2).1 q).y J.1) (fun ρ1 h1 M => (alike_M N (by omega) M i1 i2).1 q) (hcd2 (by (repeat' split) <;> decide)) (by decide) (fun _ => rfl) (fun j e => oc_1 (by (repeat' split) <;> decide) e)
theorem op_told (N : Nat) (hN : 100000 ≤ N) (P : PJ Q A m o B n h) (hn : n < 512) (x1 : Int32) (x2 : Int32) : STA Q A m o B n (f_K_told N h (Q 0) x1 x2) (fun v => v.toInt64) (fun j => if j = 1 then 1 else 2) (fun j => j = 1) (fun h1 => f_M_told N h1 m x1 x2) (fun v => v.toInt64) := by
  obtain ⟨ρ, F, ks, J, hl, hB⟩ := P
  obtain ⟨c1, i1, rfl⟩ := iI_ex x1
  obtain ⟨c2, i2, rfl⟩ := iI_ex x2
  exact ask_S J hl hB hn ((told_K N (by omega) J.1 J.2.2.1 i1 i2).y J.1) (fun ρ1 h1 M => told_M N (by omega) M i1 i2) (hcd2 (by (repeat' split) <;> decide)) (by decide) (fun _ => rfl) (fun j e => oc_1 (by (repeat' split) <;> decide) e)
theorem op_fits (N : Nat) (hN : 100000 ≤ N) (P : PJ Q A m o B n h) (hn : n < 512) (x1 : Int32) (x2 : Int32) : STA Q A m o B n (f_K_fits N h (Q 0) x1 x2) (fun v => v.toInt64) (fun j => if j = 1 then 1 else 2) (fun j => j = 1) (fun h1 => f_M_fits N h1 m x1 x2) (fun v => v.toInt64) := by
  obtain ⟨ρ, F, ks, J, hl, hB⟩ := P
  obtain ⟨c1, i1, rfl⟩ := iI_ex x1
  obtain ⟨c2, i2, rfl⟩ := iI_ex x2
  by_cases q : (isSt F.1.1 0 c1 ∧ ((F.1.1 0).2.1 c1.toNat).1 ≤ 2) ∧ (0 ≤ c2 ∧ c2 ≤ 1)
  · exact ask_S J hl hB hn (((fits_K N (by omega) J.1 i1 i2).2 q (fun w _ => fitB_iff _ _ _)).y J.1) (fun ρ1 h1 M => (fits_M N (by omega) M i1 i2).2 q) (hcd2 (by (repeat' split) <;> decide)) (by decide) (fun _ => rfl) (fun j e => oc_1 (by (repeat' split) <;> decide) e)
  · exact ask_S J hl hB hn (((fits_K N (by omega) J.1 i1 i2 (f := fun _ => true)).1 q).y J.1) (fun ρ1 h1 M => (fits_M N (by omega) M i1 i2).1 q) (hcd2 (by (repeat' split) <;> decide)) (by decide) (fun _ => rfl) (fun j e => oc_1 (by (repeat' split) <;> decide) e)
theorem op_look (N : Nat) (hN : 100000 ≤ N) (P : PJ Q A m o B n h) (hn : n < 512) (x1 : Int32) (x2 : Int32) : STA Q A m o B n (f_K_look N h (Q 0) x1 x2) (fun v => v.toInt64) (fun j => if j = 1 then 1 else 2) (fun j => j = 1) (fun h1 => f_M_look N h1 m x1 x2) (fun v => v.toInt64) := by
  obtain ⟨ρ, F, ks, J, hl, hB⟩ := P
  obtain ⟨c1, i1, rfl⟩ := iI_ex x1
  obtain ⟨c2, i2, rfl⟩ := iI_ex x2
  by_cases q : (isSt F.1.1 0 c1 ∧ ((F.1.1 0).2.1 c1.toNat).1 ≤ 2) ∧ (0 ≤ c2 ∧ c2 ≤ 1)
  · exact ask_S J hl hB hn (((look_K N (by omega) J.1 i1 i2).2 q (fun w _ => fitB_iff _ _ _) ((look_M N (by omega) J.2.1 i1 i2).2 q).1).y J.1) (fun ρ1 h1 M => ((look_M N (by omega) M i1 i2).2 q).2) (hcd2 (by (repeat' split) <;> decide)) (by decide) (fun _ => rfl) (fun j e => oc_1 (by (repeat' split) <;> decide) e)
  · exact ask_S J hl hB hn (((look_K N (by omega) J.1 i1 i2 (f := fun _ => true)).1 q).y J.1) (fun ρ1 h1 M => (look_M N (by omega) M i1 i2).1 q) (hcd2 (by (repeat' split) <;> decide)) (by decide) (fun _ => rfl) (fun j e => oc_1 (by (repeat' split) <;> decide) e)
theorem op_years (N : Nat) (hN : 100000 ≤ N) (P : PJ Q A m o B n h) (hn : n < 512) (x1 : Int32) (x2 : Int32) (x3 : Int32) : STA Q A m o B n (f_K_years N h (Q 0) x1 x2 x3) (fun v => v) (fun j => if j = 1 then 1 else 2) (fun j => j = 1 ∨ j = 2) (fun h1 => f_M_years N h1 m x1 x2 x3) (fun v => v) := by
  obtain ⟨ρ, F, ks, J, hl, hB⟩ := P
  obtain ⟨c2, i2, rfl⟩ := iI_ex x2
  obtain ⟨c3, i3, rfl⟩ := iI_ex x3
  obtain ⟨Z, hZ, -⟩ := years_M N (by omega) J.2.1 x1 i2 i3
  refine ask_S J hl hB hn (years_K N (by omega) J.1 x1 i2 i3 hZ) (fun ρ1 h1 M => ?_) (b := if (0 ≤ c3 ∧ c3 ≤ 2) ∧ (0 ≤ c2 ∧ c2 ≤ 20) then lI (zYa Z c3) else 0) (hcd2 (by (repeat' split) <;> decide)) (by decide) (fun _ => rfl) (fun j e => oc_12 e)
  obtain ⟨Z', hZ', X⟩ := years_M N (by omega) M x1 i2 i3
  by_cases q : (0 ≤ c3 ∧ c3 ≤ 2) ∧ (0 ≤ c2 ∧ c2 ≤ 20)
  · cases zYs_un (hZ q) (hZ' q)
    exact X
  · rw [if_neg q] at X ⊢
    exact X
theorem op_feed (N : Nat) (hN : 100000 ≤ N) (P : PJ Q A m o B n h) (hn : n < 512) (x1 : Int32) (x2 : Int32) (x3 : Int32) (x4 : Int32) (x5 : Int32) : STB Q A m o B n (f_K_feed N h (Q 0) x1 x2 x3 x4 x5) (fun h1 => f_M_feed N h1 m x1 x2 x3 x4 x5) := by
  obtain ⟨ρ, F, ks, J, hl, hB⟩ := P
  by_cases q : F.2.2.1.1 + 20 ≤ 600
  · exact act_S J hl hB hn ((feed_K N (by omega) J.1 x1 x2 x3 x4 x5).1 q) (fun ρ1 h1 M => (feed_M N (by omega) M x1 x2 x3 x4 x5).1 q) (by decide) (by have e := (feedT_at F.2.2.1 x1 x2 x3 x4 x5).1; dsimp only; omega)
  · exact act_S J hl hB hn ((feed_K N (by omega) J.1 x1 x2 x3 x4 x5).2 q) (fun ρ1 h1 M => (feed_M N (by omega) M x1 x2 x3 x4 x5).2 q) (by decide) (by show 284 * _ + 57 * F.2.2.1.1 ≤ 57 * F.2.2.1.1 + 1160; omega)
theorem op_fault (N : Nat) (hN : 100000 ≤ N) (P : PJ Q A m o B n h) (hn : n < 512)  : STB Q A m o B n (f_K_fault N h (Q 0)) (fun h1 => f_M_fault N h1 m) := by
  obtain ⟨ρ, F, ks, J, hl, hB⟩ := P
  exact act_S J hl hB hn ((⟨ρ, h, ks, fault_K N J.1, J.1, tr.rf, by omega, by omega⟩ : KA ρ h Q ks (iI F.2.2.2) F 0 _)) (fun ρ1 h1 M => fault_M N M) (by decide) (by show 284 * _ + 57 * F.2.2.1.1 ≤ 57 * F.2.2.1.1 + 1160; omega)
theorem op_does (N : Nat) (hN : 100000 ≤ N) (P : PJ Q A m o B n h) (hn : n < 512) (x1 : Int32) (x2 : Int32) (x3 : Int32) (x4 : Int32) : STB Q A m o B n (f_K_does N h (Q 0) x1 x2 x3 x4) (fun h1 => f_M_does N h1 m x1 x2 x3 x4) := by
  obtain ⟨ρ, F, ks, J, hl, hB⟩ := P
  obtain ⟨c1, i1, rfl⟩ := iI_ex x1
  obtain ⟨c2, i2, rfl⟩ := iI_ex x2
  obtain ⟨c3, i3, rfl⟩ := iI_ex x3
  obtain ⟨c4, i4, rfl⟩ := iI_ex x4
  by_cases q : doOk F.1.1 c1 c2 c3 c4
  · exact act_S J hl hB hn ((does_K N (by omega) J.1 J.2.2.1 (by omega) i1 i2 i3 i4).1 q) (fun ρ1 h1 M => (does_M N (by omega) M i1 i2 i3 i4).1 q) (by decide) (by show 284 * _ + 57 * F.2.2.1.1 ≤ 57 * F.2.2.1.1 + 1160; omega)
  · exact act_S J hl hB hn ((does_K N (by omega) J.1 J.2.2.1 (by omega) i1 i2 i3 i4).2 q) (fun ρ1 h1 M => (does_M N (by omega) M i1 i2 i3 i4).2 q) (by decide) (by show 284 * _ + 57 * F.2.2.1.1 ≤ 57 * F.2.2.1.1 + 1160; omega)
theorem op_puts (N : Nat) (hN : 100000 ≤ N) (P : PJ Q A m o B n h) (hn : n < 512) (x1 : Int32) (x2 : Int32) (x3 : Int32) (x4 : Int32) (x5 : Int32) : STB Q A m o B n (f_K_puts N h (Q 0) x1 x2 x3 x4 x5) (fun h1 => f_M_puts N h1 m x1 x2 x3 x4 x5) := by
  obtain ⟨ρ, F, ks, J, hl, hB⟩ := P
  obtain ⟨c1, i1, rfl⟩ := iI_ex x1
  obtain ⟨c2, i2, rfl⟩ := iI_ex x2
  obtain ⟨c3, i3, rfl⟩ := iI_ex x3
  obtain ⟨c4, i4, rfl⟩ := iI_ex x4
  obtain ⟨c5, i5, rfl⟩ := iI_ex x5
  by_cases q : putOk F.1.1 c1 c2 c3 c4 c5
  · exact act_S J hl hB hn ((puts_K N (by omega) J.1 J.2.2.1 (by omega) i1 i2 i3 i4 i5).1 q) (fun ρ1 h1 M => (puts_M N (by omega) M i1 i2 i3 i4 i5).1 q) (by decide) (by show 284 * _ + 57 * F.2.2.1.1 ≤ 57 * F.2.2.1.1 + 1160; omega)
  · exact act_S J hl hB hn ((puts_K N (by omega) J.1 J.2.2.1 (by omega) i1 i2 i3 i4 i5).2 q) (fun ρ1 h1 M => (puts_M N (by omega) M i1 i2 i3 i4 i5).2 q) (by decide) (by show 284 * _ + 57 * F.2.2.1.1 ≤ 57 * F.2.2.1.1 + 1160; omega)
theorem op_takes (N : Nat) (hN : 100000 ≤ N) (P : PJ Q A m o B n h) (hn : n < 512) (x1 : Int32) (x2 : Int32) : STB Q A m o B n (f_K_takes N h (Q 0) x1 x2) (fun h1 => f_M_takes N h1 m x1 x2) := by
  obtain ⟨ρ, F, ks, J, hl, hB⟩ := P
  obtain ⟨c1, i1, rfl⟩ := iI_ex x1
  obtain ⟨c2, i2, rfl⟩ := iI_ex x2
  by_cases q : takeOk F.1.1 c1 c2
  · exact act_S J hl hB hn ((takes_K N (by omega) J.1 i1 i2).1 q) (fun ρ1 h1 M => (takes_M N (by omega) M i1 i2).1 q) (by decide) (by show 284 * _ + 57 * F.2.2.1.1 ≤ 57 * F.2.2.1.1 + 1160; omega)
  · exact act_S J hl hB hn ((takes_K N (by omega) J.1 i1 i2).2 q) (fun ρ1 h1 M => (takes_M N (by omega) M i1 i2).2 q) (by decide) (by show 284 * _ + 57 * F.2.2.1.1 ≤ 57 * F.2.2.1.1 + 1160; omega)
theorem op_copy (N : Nat) (hN : 100000 ≤ N) (P : PJ Q A m o B n h) (hn : n < 512) (x1 : Int32) (x2 : Int32) : STB Q A m o B n (f_K_copy N h (Q 0) x1 x2) (fun h1 => f_M_copy N h1 m x1 x2) := by
  obtain ⟨ρ, F, ks, J, hl, hB⟩ := P
  obtain ⟨c1, i1, rfl⟩ := iI_ex x1
  obtain ⟨c2, i2, rfl⟩ := iI_ex x2
  by_cases q : copyOk F.1.1 c1 c2
  · exact act_S J hl hB hn ((copy_K N (by omega) J.1 i1 i2).1 q) (fun ρ1 h1 M => (copy_M N (by omega) M i1 i2).1 q) (by decide) (by show 284 * _ + 57 * F.2.2.1.1 ≤ 57 * F.2.2.1.1 + 1160; omega)
  · exact act_S J hl hB hn ((copy_K N (by omega) J.1 i1 i2).2 q) (fun ρ1 h1 M => (copy_M N (by omega) M i1 i2).2 q) (by decide) (by show 284 * _ + 57 * F.2.2.1.1 ≤ 57 * F.2.2.1.1 + 1160; omega)
theorem op_undo (N : Nat) (hN : 100000 ≤ N) (P : PJ Q A m o B n h) (hn : n < 512)  : STB Q A m o B n (f_K_undo N h (Q 0)) (fun h1 => f_M_undo N h1 m) := by
  obtain ⟨ρ, F, ks, J, hl, hB⟩ := P
  by_cases q : F.1.2.1 = 0
  · exact act_S J hl hB hn ((undo_K N (by omega) J.1).1 q) (fun ρ1 h1 M => (undo_M N (by omega) M).1 q) (by decide) (by show 284 * _ + 57 * F.2.2.1.1 ≤ 57 * F.2.2.1.1 + 1160; omega)
  · exact act_S J hl hB hn ((undo_K N (by omega) J.1).2 q) (fun ρ1 h1 M => (undo_M N (by omega) M).2 q) (by decide) (by show 284 * _ + 57 * F.2.2.1.1 ≤ 57 * F.2.2.1.1 + 1160; omega)
theorem op_note (N : Nat) (hN : 100000 ≤ N) (P : PJ Q A m o B n h) (hn : n < 512) (x1 : Int32) (x2 : Int64) : STB Q A m o B n (f_K_note N h (Q 0) x1 x2) (fun h1 => f_M_note N h1 m x1 x2) := by
  obtain ⟨ρ, F, ks, J, hl, hB⟩ := P
  obtain ⟨c1, i1, rfl⟩ := iI_ex x1
  by_cases q : F.1.2.2.2.1 < 8 ∧ (-100000 ≤ c1 ∧ c1 ≤ 100000)
  · exact act_S J hl hB hn ((note_K N J.1 i1 x2).1 q) (fun ρ1 h1 M => (note_M N M i1 x2).1 q) (by decide) (by show 284 * _ + 57 * F.2.2.1.1 ≤ 57 * F.2.2.1.1 + 1160; omega)
  · exact act_S J hl hB hn ((note_K N J.1 i1 x2).2 q) (fun ρ1 h1 M => (note_M N M i1 x2).2 q) (by decide) (by show 284 * _ + 57 * F.2.2.1.1 ≤ 57 * F.2.2.1.1 + 1160; omega)
theorem op_forget (N : Nat) (hN : 100000 ≤ N) (P : PJ Q A m o B n h) (hn : n < 512)  : STB Q A m o B n (f_K_forget N h (Q 0)) (fun h1 => f_M_forget N h1 m) := by
  obtain ⟨ρ, F, ks, J, hl, hB⟩ := P
  exact act_S J hl hB hn (forget_K N J.1) (fun ρ1 h1 M => forget_M N M) (by decide) (by show 284 * _ + 57 * F.2.2.1.1 ≤ 57 * F.2.2.1.1 + 1160; omega)
theorem op_image (N : Nat) (hN : 100000 ≤ N) (P : PJ Q A m o B n h) (hn : n < 512)  : STB Q A m o B n (f_K_image N h (Q 0)) (fun h1 => f_M_image N h1 m) := by
  obtain ⟨ρ, F, ks, J, hl, hB⟩ := P
  exact act_S J hl hB hn (image_K N (by omega) J.1) (fun ρ1 h1 M => image_M N (by omega) M) (by decide) (by show 284 * _ + 57 * F.2.2.1.1 ≤ 57 * F.2.2.1.1 + 1160; omega)
theorem op_restore (N : Nat) (hN : 100000 ≤ N) (P : PJ Q A m o B n h) (hn : n < 512)  : STB Q A m o B n (f_K_restore N h (Q 0)) (fun h1 => f_M_restore N h1 m) := by
  obtain ⟨ρ, F, ks, J, hl, hB⟩ := P
  cases q : F.2.1 with
  | none => exact act_S J hl hB hn (restore_n N J.1 q) (fun ρ1 h1 M => restore_M_n N M q) (by decide) (by show 284 * _ + 57 * F.2.2.1.1 ≤ 57 * F.2.2.1.1 + 1160; omega)
  | some S => exact act_S J hl hB hn (restore_y N (by omega) J.1 q) (fun ρ1 h1 M => restore_M_y N (by omega) M q) (by decide) (by show 284 * _ + 57 * F.2.2.1.1 ≤ 57 * F.2.2.1.1 + 1160; omega)
end
