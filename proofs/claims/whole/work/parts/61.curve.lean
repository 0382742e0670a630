/-! REGIONS: each cell has a label (a ghost); what a program changes lies in the cells of some labels, or is new -/
def tr (ρ : Nat → Nat) (h : hS) (R : Nat → Prop) (ρ' : Nat → Nat) (g : hS) : Prop := h_x h ≤ h_x g ∧ ∀ a, a < h_x h → h_k g a = h_k h a ∧ h_n g a = h_n h a ∧ ρ' a = ρ a ∧ (¬ R (ρ a) → h_i g a = h_i h a ∧ h_j g a = h_j h a ∧ h_r g a = h_r h a)
def rg (l : Nat) : Nat → Prop := fun q => q = l
/-- new cells are of the label l -/
def ext (ρ : Nat → Nat) (h : hS) (l : Nat) : Nat → Nat := fun a => if a < h_x h then ρ a else l
/-- the room that a heap has taken: thirteen for each cell, one for each slot -/
def hm (h : hS) : Nat := 13 * h_x h + h_s h
theorem tr.rf {ρ : Nat → Nat} {h : hS} {R : Nat → Prop} : tr ρ h R ρ h := ⟨Nat.le_refl _, fun _ _ => ⟨rfl, rfl, rfl, fun _ => ⟨rfl, rfl, rfl⟩⟩⟩
theorem tr.trans {ρ ρ1 ρ2 : Nat → Nat} {h g1 g2 : hS} {R : Nat → Prop} (a : tr ρ h R ρ1 g1) (b : tr ρ1 g1 R ρ2 g2) : tr ρ h R ρ2 g2 := ⟨Nat.le_trans a.1 b.1, fun q hq => by
  obtain ⟨a1, a2, a3, a4⟩ := a.2 q hq
  obtain ⟨b1, b2, b3, b4⟩ := b.2 q (Nat.lt_of_lt_of_le hq a.1)
  refine ⟨b1.trans a1, b2.trans a2, b3.trans a3, fun hR => ?_⟩
  obtain ⟨c1, c2, c3⟩ := a4 hR
  obtain ⟨d1, d2, d3⟩ := b4 (by rw [a3]; exact hR)
  exact ⟨d1.trans c1, d2.trans c2, d3.trans c3⟩⟩
theorem tr.mono {ρ ρ' : Nat → Nat} {h g : hS} {R R' : Nat → Prop} (a : tr ρ h R ρ' g) (hR : ∀ q, R q → R' q) : tr ρ h R' ρ' g := ⟨a.1, fun q hq => by
  obtain ⟨a1, a2, a3, a4⟩ := a.2 q hq
  exact ⟨a1, a2, a3, fun k => a4 (fun z => k (hR _ z))⟩⟩
theorem tr_si {ρ : Nat → Nat} {h : hS} {a k : Nat} {v : Int32} {R : Nat → Prop} (ha : R (ρ a)) : tr ρ h R ρ (s_i h a k v) := ⟨Nat.le_refl _, fun q _ => ⟨rfl, rfl, rfl, fun hR => ⟨by rw [h_i_si, if_neg (fun e => hR (by rw [e]; exact ha))], rfl, rfl⟩⟩⟩
theorem tr_sj {ρ : Nat → Nat} {h : hS} {a k : Nat} {v : Int64} {R : Nat → Prop} (ha : R (ρ a)) : tr ρ h R ρ (s_j h a k v) := ⟨Nat.le_refl _, fun q _ => ⟨rfl, rfl, rfl, fun hR => ⟨rfl, by rw [h_j_sj, if_neg (fun e => hR (by rw [e]; exact ha))], rfl⟩⟩⟩
theorem tr_sr {ρ : Nat → Nat} {h : hS} {a k : Nat} {v : Option Nat} {R : Nat → Prop} (ha : R (ρ a)) : tr ρ h R ρ (s_r h a k v) := ⟨Nat.le_refl _, fun q _ => ⟨rfl, rfl, rfl, fun hR => ⟨rfl, rfl, by rw [h_r_sr, if_neg (fun e => hR (by rw [e]; exact ha))]⟩⟩⟩
theorem tr_sI {ρ : Nat → Nat} {h : hS} {a : Nat} {F : Nat → Int32} {R : Nat → Prop} (ha : R (ρ a)) : tr ρ h R ρ (s_I h a F) := ⟨Nat.le_refl _, fun q _ => ⟨rfl, rfl, rfl, fun hR => ⟨by rw [h_i_sI, if_neg (fun e => hR (by rw [e]; exact ha))], rfl, rfl⟩⟩⟩
theorem tr_sJ {ρ : Nat → Nat} {h : hS} {a : Nat} {F : Nat → Int64} {R : Nat → Prop} (ha : R (ρ a)) : tr ρ h R ρ (s_J h a F) := ⟨Nat.le_refl _, fun q _ => ⟨rfl, rfl, rfl, fun hR => ⟨rfl, by rw [h_j_sJ, if_neg (fun e => hR (by rw [e]; exact ha))], rfl⟩⟩⟩
theorem k_nw (h : hS) (kd n ms a : Nat) : h_k (nw h kd n ms) a = if a = h_x h then kd else h_k h a := rfl
theorem n_nw (h : hS) (kd n ms a : Nat) : h_n (nw h kd n ms) a = if a = h_x h then n else h_n h a := rfl
theorem i_nw (h : hS) (kd n ms a : Nat) : h_i (nw h kd n ms) a = if a = h_x h then (fun _ => 0) else h_i h a := rfl
theorem j_nw (h : hS) (kd n ms a : Nat) : h_j (nw h kd n ms) a = if a = h_x h then (fun _ => 0) else h_j h a := rfl
theorem r_nw (h : hS) (kd n ms a : Nat) : h_r (nw h kd n ms) a = if a = h_x h then (fun _ => none) else h_r h a := rfl
theorem tr_nw {ρ : Nat → Nat} {h : hS} {kd n ms l : Nat} {R : Nat → Prop} : tr ρ h R (ext ρ h l) (nw h kd n ms) := ⟨Nat.le_succ _, fun q hq => by
  have hne : ¬ q = h_x h := by omega
  refine ⟨by rw [k_nw, if_neg hne], by rw [n_nw, if_neg hne], by unfold ext; rw [if_pos hq], fun _ => ⟨by rw [i_nw, if_neg hne], by rw [j_nw, if_neg hne], by rw [r_nw, if_neg hne]⟩⟩⟩
theorem nwA_n {β : Type} {h : hS} {kd n : Nat} {f : Nat → hS → Option β} (hn : n ≤ 10000000) : nwA h kd (iI n) f = f (h_x h) (nw h kd n n) := by
  unfold nwA
  rw [← nI_iI, if_pos ⟨by rw [nI_iI]; exact fun q => absurd ((iI_lt (b := 0) (by omega) (by omega)).mp q) (by omega), by rw [nI_clamp (by omega)]; exact hn⟩, nI_clamp (by omega)]
theorem CR.keep {ρ ρ' : Nat → Nat} {l : Nat} {h g : hS} {c : Nat} {L : List (Int × Int)} {lf bt : Int} {R : Nat → Prop} (C : CR ρ l h c L lf bt) (t : tr ρ h R ρ' g) (hR : ¬ R l) : CR ρ' l g c L lf bt := by
  obtain ⟨r, q1, q2, q3, q4, q5⟩ := C
  obtain ⟨a1, a2, a3, a4⟩ := t.2 c q1.2.2
  obtain ⟨b1, b2, b3, b4⟩ := t.2 r q2.2.2.2.1
  obtain ⟨a5, a6, a7⟩ := a4 (by rw [q1.2.1]; exact hR)
  obtain ⟨b5, b6, b7⟩ := b4 (by rw [q2.2.2.1]; exact hR)
  have ht := t.1
  exact ⟨r, ⟨a1.trans q1.1, a3.trans q1.2.1, by omega⟩, ⟨by rw [a7]; exact q2.1, b1.trans q2.2.1, b3.trans q2.2.2.1, by omega, by rw [b2]; exact q2.2.2.2.2⟩, ⟨by rw [a5]; exact q3.1, by rw [a5]; exact q3.2.1, by rw [a5]; exact q3.2.2.1, by rw [a6]; exact q3.2.2.2⟩, fun i hi => by rw [b5]; exact q4 i hi, q5⟩
/-- how long a curve's row is; how much room it may take yet -/
def capR (h : hS) (c : Nat) : Nat := match h_r h c 1 with
  | some r => h_n h r
  | none => 0
def rst (n : Nat) : Nat := if 5001 ≤ n then 0 else if 480 ≤ n then 5014 else if 48 ≤ n then 5507 else 5568
theorem rst_a {n : Nat} (h : n < 48) : rst n = 5568 := by unfold rst; rw [if_neg (by omega), if_neg (by omega), if_neg (by omega)]
theorem rst_b {n : Nat} (h : 48 ≤ n) (h2 : n < 480) : rst n = 5507 := by unfold rst; rw [if_neg (by omega), if_neg (by omega), if_pos (by omega)]
theorem rst_c {n : Nat} (h : 480 ≤ n) (h2 : n < 5001) : rst n = 5014 := by unfold rst; rw [if_neg (by omega), if_pos (by omega)]
theorem rst_d : rst 48 = 5507 ∧ rst 480 = 5014 ∧ rst 5001 = 0 := ⟨rfl, rfl, rfl⟩
theorem capR_of {h : hS} {c r : Nat} (q : h_r h c 1 = some r) : capR h c = h_n h r := by unfold capR; rw [q]
theorem CR.cap {ρ ρ' : Nat → Nat} {l : Nat} {h g : hS} {c : Nat} {L : List (Int × Int)} {lf bt : Int} {R : Nat → Prop} (C : CR ρ l h c L lf bt) (t : tr ρ h R ρ' g) (hR : ¬ R l) : capR g c = capR h c := by
  obtain ⟨r, q1, q2, q3, q4, q5⟩ := C
  obtain ⟨a1, a2, a3, a4⟩ := t.2 c q1.2.2
  obtain ⟨b1, b2, b3, b4⟩ := t.2 r q2.2.2.2.1
  obtain ⟨a5, a6, a7⟩ := a4 (by rw [q1.2.1]; exact hR)
  rw [capR_of q2.1, capR_of (by rw [a7]; exact q2.1), b2]
/-- a curve whatever stands in it -/
def CB (ρ : Nat → Nat) (l : Nat) (h : hS) (c : Nat) : Prop := ∃ r, (h_k h c = 4 ∧ ρ c = l ∧ c < h_x h) ∧ (h_r h c 1 = some r ∧ h_k h r = 50 ∧ ρ r = l ∧ r < h_x h ∧ h_n h r ≤ 5001)
theorem CR.b {ρ : Nat → Nat} {l : Nat} {h : hS} {c : Nat} {L : List (Int × Int)} {lf bt : Int} (C : CR ρ l h c L lf bt) : CB ρ l h c := by
  obtain ⟨r, q1, q2, q3, q4, q5⟩ := C
  exact ⟨r, q1, q2.1, q2.2.1, q2.2.2.1, q2.2.2.2.1, q2.2.2.2.2.1⟩
theorem CR.le {ρ : Nat → Nat} {l : Nat} {h : hS} {c : Nat} {L : List (Int × Int)} {lf bt : Int} (C : CR ρ l h c L lf bt) : L.length ≤ capR h c ∧ capR h c ≤ 5001 := by
  obtain ⟨r, q1, q2, q3, q4, q5⟩ := C
  rw [capR_of q2.1]
  exact ⟨q2.2.2.2.2.2, q2.2.2.2.2.1⟩
theorem cuOk_0 : cuOk [] 0 0 := ⟨fun e he => (by cases he), by decide, by decide, by decide, by decide⟩
section
variable {ρ : Nat → Nat} {l : Nat} {h : hS} {c : Nat} {L : List (Int × Int)} {lf bt : Int}
theorem cclear_42 (N : Nat) (B : CB ρ l h c) : ∃ g, f_Curve_clear_42 N h c = some ((), g) ∧ tr ρ h (rg l) ρ g ∧ CR ρ l g c [] 0 0 ∧ capR g c = capR h c ∧ hm g = hm h := by
  obtain ⟨r, q1, q2⟩ := B
  have hrc : ¬ r = c := fun e => by have := q2.2.1; rw [e, q1.1] at this; cases this
  unfold f_Curve_clear_42
  rw [pI_k q1.1, pI_k (h := s_i h c 0 0) q1.1, pI_k (h := s_i (s_i h c 0 0) c 2 0) q1.1, pJ_k (h := s_i (s_i (s_i h c 0 0) c 2 0) c 3 0) q1.1]
  refine ⟨_, rfl, ((tr_si q1.2.1).trans ((tr_si q1.2.1).trans ((tr_si q1.2.1).trans (tr_sj q1.2.1)))), ⟨r, q1, ⟨q2.1, q2.2.1, q2.2.2.1, q2.2.2.2.1, q2.2.2.2.2, Nat.zero_le _⟩, ⟨?_, ?_, ?_, ?_⟩, fun i hi => (by cases hi), cuOk_0⟩, ?_, rfl⟩
  · simp [h_i_sj, h_i_si, upd]; rfl
  · simp [h_i_sj, h_i_si, upd]; rfl
  · simp [h_i_sj, h_i_si, upd]; rfl
  · simp [h_j_sj, vp_updL]; rfl
  · rw [capR_of q2.1]; exact capR_of q2.1
theorem cnew (B : CB ρ l h c) {n : Nat} (hn : n ≤ 5001) : CB (ext ρ h l) l (s_r (nw h 50 n n) c 1 (some (h_x h))) c ∧ tr ρ h (rg l) (ext ρ h l) (s_r (nw h 50 n n) c 1 (some (h_x h))) ∧ capR (s_r (nw h 50 n n) c 1 (some (h_x h))) c = n ∧ hm (s_r (nw h 50 n n) c 1 (some (h_x h))) = hm h + 13 + n := by
  obtain ⟨r, q1, q2⟩ := B
  have hc : ¬ c = h_x h := by have := q1.2.2; omega
  have hec : ext ρ h l c = l := by unfold ext; rw [if_pos q1.2.2]; exact q1.2.1
  have her : h_r (s_r (nw h 50 n n) c 1 (some (h_x h))) c 1 = some (h_x h) := by simp [h_r_sr, va_up]
  have hen : h_n (s_r (nw h 50 n n) c 1 (some (h_x h))) (h_x h) = n := by rw [h_n_sr, n_nw, if_pos rfl]
  refine ⟨⟨h_x h, ⟨?_, hec, ?_⟩, her, ?_, ?_, ?_, ?_⟩, ?_, ?_, ?_⟩
  · rw [h_k_sr, k_nw, if_neg hc]; exact q1.1
  · show c < h_x h + 1; omega
  · rw [h_k_sr, k_nw, if_pos rfl]
  · unfold ext; rw [if_neg (Nat.lt_irrefl _)]
  · show h_x h < h_x h + 1; omega
  · rw [hen]; exact hn
  · exact tr_nw.trans (tr_sr hec)
  · rw [capR_of her, hen]
  · show 13 * (h_x h + 1) + (h_s h + n) = 13 * h_x h + h_s h + 13 + n; omega
theorem cclear_37 (N : Nat) (B : CB ρ l h c) {n : Nat} (hn : n ≤ 5001) : ∃ ρ' g, f_Curve_clear_37 N h c (some c) (iI n) = some ((), g) ∧ tr ρ h (rg l) ρ' g ∧ CR ρ' l g c [] 0 0 ∧ capR g c = n ∧ hm g = hm h + 13 + n := by
  obtain ⟨b1, b2, b3, b4⟩ := cnew B hn
  obtain ⟨g, e1, e2, e3, e4, e5⟩ := cclear_42 N b1
  obtain ⟨r, q1, q2⟩ := B
  have hc : ¬ c = h_x h := by have := q1.2.2; omega
  refine ⟨_, g, ?_, b2.trans e2, e3, e4.trans b3, e5.trans b4⟩
  unfold f_Curve_clear_37 f_Curve_clear_39
  rw [nwA_n (by omega), pR_k (by rw [k_nw, if_neg hc]; exact q1.1)]
  exact e1
theorem cclear_is (N : Nat) (B : CB ρ l h c) {room : Nat} (hr : room ≤ 5001) : ∃ ρ' g, f_Curve_clear N h c (iI room) = some ((), g) ∧ tr ρ h (rg l) ρ' g ∧ CR ρ' l g c [] 0 0 ∧ room ≤ capR g c ∧ hm g + rst (capR g c) ≤ hm h + rst (capR h c) := by
  have hB := B
  obtain ⟨r, q1, q2⟩ := B
  have hro : ro h r (h_n h r) := ⟨q2.2.1, rfl⟩
  have hcap := capR_of q2.1
  unfold f_Curve_clear
  rw [gR_k q1.1, q2.1, lnA_i hro]
  by_cases h1 : room ≤ h_n h r
  · rw [if_pos ((iI_le (by omega) (by omega)).mpr (by omega))]
    obtain ⟨g, e1, e2, e3, e4, e5⟩ := cclear_42 N hB
    exact ⟨ρ, g, e1, e2, e3, by rw [e4, hcap]; exact h1, by rw [e4, e5]; exact Nat.le_refl _⟩
  · rw [if_neg (fun q => absurd ((iI_le (by omega) (by omega)).mp q) (by omega))]
    by_cases h2 : room ≤ 48
    · rw [if_pos (show iI (room : Int) ≤ (48 : Int32) from (iI_le (b := 48) (by omega) (by omega)).mpr (by omega))]
      unfold f_Curve_clear_23
      rw [if_pos (show iI (room : Int) ≤ (48 : Int32) from (iI_le (b := 48) (by omega) (by omega)).mpr (by omega))]
      obtain ⟨ρ', g, e1, e2, e3, e4, e5⟩ := cclear_37 N hB (n := 48) (by omega)
      refine ⟨ρ', g, e1, e2, e3, by omega, ?_⟩
      rw [e4, e5, hcap, rst_d.1, rst_a (by omega)]; omega
    · rw [if_neg (show ¬ iI (room : Int) ≤ (48 : Int32) from fun q => absurd ((iI_le (b := 48) (by omega) (by omega)).mp q) (by omega))]
      unfold f_Curve_clear_23
      by_cases h3 : room ≤ 480
      · rw [if_pos (show iI (room : Int) ≤ (480 : Int32) from (iI_le (b := 480) (by omega) (by omega)).mpr (by omega))]
        obtain ⟨ρ', g, e1, e2, e3, e4, e5⟩ := cclear_37 N hB (n := 480) (by omega)
        refine ⟨ρ', g, e1, e2, e3, by omega, ?_⟩
        rw [e4, e5, hcap]
        by_cases h4 : 48 ≤ h_n h r
        · rw [rst_d.2.1, rst_b h4 (by omega)]; omega
        · rw [rst_d.2.1, rst_a (by omega)]; omega
      · rw [if_neg (show ¬ iI (room : Int) ≤ (480 : Int32) from fun q => absurd ((iI_le (b := 480) (by omega) (by omega)).mp q) (by omega))]
        obtain ⟨ρ', g, e1, e2, e3, e4, e5⟩ := cclear_37 N hB (n := 5001) (by omega)
        refine ⟨ρ', g, e1, e2, e3, by omega, ?_⟩
        rw [e4, e5, hcap]
        rw [rst_d.2.2]
        by_cases h4 : 48 ≤ h_n h r
        · by_cases h5 : 480 ≤ h_n h r
          · rw [rst_c h5 (by omega)]; omega
          · rw [rst_b h4 (by omega)]; omega
        · rw [rst_a (by omega)]; omega
end
theorem nil_or_snoc {α : Type} (L : List α) : L = [] ∨ ∃ (K : List α) (e : α), L = K ++ [e] := by
  rcases List.eq_nil_or_concat L with h | ⟨K, e, h⟩
  · exact Or.inl h
  · exact Or.inr ⟨K, e, by rw [h, List.concat_eq_append]⟩
/-- a weight comes behind the last kink, or to it -/
def app (L : List (Int × Int)) (p w : Int) : List (Int × Int) := if w ≤ 0 then L else match L.getLast? with
  | some e => if e.1 = p then L.dropLast ++ [(e.1, e.2 + w)] else L ++ [(p, w)]
  | none => [(p, w)]
theorem zSum_snoc (L : List (Int × Int)) (e : Int × Int) : zSum (L ++ [e]) = zSum L + e.2 := by rw [zSum_app]; simp [zSum]
theorem app_sum {L : List (Int × Int)} {p w : Int} (hw : 0 ≤ w) : zSum (app L p w) = zSum L + w := by
  unfold app
  by_cases h0 : w ≤ 0
  · rw [if_pos h0]; omega
  · rw [if_neg h0]
    rcases nil_or_snoc L with rfl | ⟨K, e, rfl⟩
    · simp [zSum]
    · simp only [List.getLast?_concat, List.dropLast_concat]
      split
      · rw [zSum_snoc, zSum_snoc]; simp; omega
      · rw [zSum_snoc]
theorem app_mem {L : List (Int × Int)} {p w : Int} {P : Int → Prop} (hL : ∀ e ∈ L, P e.1 ∧ 1 ≤ e.2) (hp : P p) : ∀ e ∈ app L p w, P e.1 ∧ 1 ≤ e.2 := by
  unfold app
  by_cases h0 : w ≤ 0
  · rw [if_pos h0]; exact hL
  · rw [if_neg h0]
    rcases nil_or_snoc L with rfl | ⟨K, e, rfl⟩
    · intro q hq; simp at hq; subst hq; exact ⟨hp, by simp; omega⟩
    · simp only [List.getLast?_concat, List.dropLast_concat]
      split
      · intro q hq
        rcases List.mem_append.mp hq with hq | hq
        · exact hL q (List.mem_append_left _ hq)
        · simp at hq; subst hq
          have := hL e (by simp)
          exact ⟨this.1, by have := this.2; simp; omega⟩
      · intro q hq
        rcases List.mem_append.mp hq with hq | hq
        · exact hL q hq
        · simp at hq; subst hq; exact ⟨hp, by simp; omega⟩
theorem app_len (L : List (Int × Int)) (p w : Int) : L.length ≤ (app L p w).length ∧ (app L p w).length ≤ L.length + 1 := by
  unfold app
  by_cases h0 : w ≤ 0
  · rw [if_pos h0]; omega
  · rw [if_neg h0]
    rcases nil_or_snoc L with rfl | ⟨K, e, rfl⟩
    · simp
    · simp only [List.getLast?_concat, List.dropLast_concat]
      split <;> simp
section
variable {ρ : Nat → Nat} {l : Nat} {h : hS} {c : Nat} {L : List (Int × Int)} {lf bt : Int}
theorem cpush_is (N : Nat) (C : CR ρ l h c L lf bt) {p w : Int} (hp : -20000 ≤ p ∧ p ≤ 20000) (hw : 1 ≤ w) (hs : zSum L + w ≤ 8000) (hr : L.length < capR h c) : ∃ g, f_Curve_append_66 N h c (iI p) (iI w) = some ((), g) ∧ tr ρ h (rg l) ρ g ∧ CR ρ l g c (L ++ [(p, w)]) lf bt ∧ capR g c = capR h c ∧ hm g = hm h := by
  have hk := C.k
  have hf := C.f
  have ho := C.ok
  have hlen := C.len
  have hnn := ho.nn
  obtain ⟨r, q1, q2, q3, q4, q5⟩ := C
  have hro : ro h r (h_n h r) := ⟨q2.2.1, rfl⟩
  have hcap := capR_of q2.1
  have hrc : ¬ r = c := fun e => by have := q2.2.1; rw [e, q1.1] at this; cases this
  have hcr : ¬ c = r := fun e => hrc e.symm
  unfold f_Curve_append_66
  rw [gI_k hk, gR_k hk, q2.1, lnA_i hro, hf.1, if_neg (fun q => absurd ((iI_le (by omega) (by omega)).mp q) (by omega)), gR_k hk, q2.1, gI_k hk, hf.1, uI_iI hro (by omega) (by omega) (by omega), show ((L.length : Int)).toNat = L.length by omega, iI_shl13, iI_add]
  rw [gI_k (h := s_i h r L.length _) q1.1, pI_k (h := s_i h r L.length _) q1.1, gI_k (h := s_i (s_i h r L.length _) c 0 _) q1.1, pI_k (h := s_i (s_i h r L.length _) c 0 _) q1.1]
  refine ⟨_, rfl, (tr_si q2.2.2.1).trans ((tr_si q1.2.1).trans (tr_si q1.2.1)), ⟨r, q1, ⟨q2.1, q2.2.1, q2.2.2.1, q2.2.2.2.1, q2.2.2.2.2.1, ?_⟩, ⟨?_, ?_, ?_, ?_⟩, ?_, ?_⟩, ?_, rfl⟩
  · show (L ++ [(p, w)]).length ≤ h_n h r
    simp; omega
  · simp only [h_i_si, hcr, if_false, if_true, upd, hf.1]
    simp only [show ¬ (0 : Nat) = 3 by omega, if_false, if_true, List.length_append, List.length_singleton]
    rw [show (1 : Int32) = iI 1 from rfl, iI_add]; rfl
  · simp [h_i_si, hcr, upd, hf.2.1]
  · simp only [h_i_si, hcr, if_false, if_true, upd, hf.2.2.1]
    simp only [show ¬ (3 : Nat) = 0 by omega, if_false, if_true, zSum_snoc]
    rw [iI_add]
  · exact hf.2.2.2
  · intro i hi
    simp only [h_i_si, hrc, if_false, if_true, upd]
    by_cases hil : i = L.length
    · subst hil; simp
    · simp only [hil, if_false]
      have hi2 : i < L.length := by simp at hi; omega
      rw [List.getElem_append_left hi2]
      exact q4 i hi2
  · refine ⟨fun e he => ?_, by rw [zSum_snoc]; exact hs, ho.2.2⟩
    rcases List.mem_append.mp he with he | he
    · exact ho.1 e he
    · simp at he; subst he; exact ⟨hp.1, hp.2, hw⟩
  · rw [hcap]; exact capR_of q2.1
theorem cappend_is (N : Nat) (C : CR ρ l h c L lf bt) {p w : Int} (hp : -20000 ≤ p ∧ p ≤ 20000) (hw : 0 ≤ w) (hs : zSum L + w ≤ 8000) (hr : (app L p w).length ≤ capR h c) : ∃ g, f_Curve_append N h c (iI p) (iI w) = some ((), g) ∧ tr ρ h (rg l) ρ g ∧ CR ρ l g c (app L p w) lf bt ∧ capR g c = capR h c ∧ hm g = hm h := by
  have hC := C
  have hk := C.k
  have hf := C.f
  have ho := C.ok
  have hlen := C.len
  have hnn := ho.nn
  unfold f_Curve_append
  by_cases h0 : w ≤ 0
  · rw [if_neg (show ¬ (0 : Int32) < iI w from fun q => absurd ((iI_lt (a := 0) (by omega) (by omega)).mp q) (by omega))]
    refine ⟨h, rfl, tr.rf, ?_, rfl, rfl⟩
    unfold app; rw [if_pos h0]; exact C
  rw [if_pos (show (0 : Int32) < iI w from (iI_lt (a := 0) (by omega) (by omega)).mpr (by omega)), gI_k hk, hf.1]
  unfold app at hr ⊢
  rw [if_neg h0] at hr ⊢
  rcases nil_or_snoc L with rfl | ⟨K, e, rfl⟩
  · rw [if_pos (show iI (([] : List (Int × Int)).length : Int) ≤ (0 : Int32) from by decide)]
    simp only [List.getLast?_nil] at hr ⊢
    exact cpush_is N C hp (by omega) hs (by simp at hr; simp; omega)
  · simp only [List.getLast?_concat, List.dropLast_concat] at hr ⊢
    have hle : (K ++ [e]).length = K.length + 1 := by simp
    have hi : K.length < (K ++ [e]).length := by omega
    have hce := C.le
    have hpl := placeOf_in N C hi
    have hge : (K ++ [e])[K.length] = e := by simp
    rw [hge] at hpl
    obtain ⟨r, q1, q2, q3, q4, q5⟩ := C
    have hro : ro h r (h_n h r) := ⟨q2.2.1, rfl⟩
    have hcap := capR_of q2.1
    have hrc : ¬ r = c := fun e => by have := q2.2.1; rw [e, q1.1] at this; cases this
    have hcr : ¬ c = r := fun e => hrc e.symm
    rw [if_neg (show ¬ iI ((K ++ [e]).length : Int) ≤ (0 : Int32) from fun q => absurd ((iI_le (b := 0) (by omega) (by omega)).mp q) (by omega)), gI_k hk, gR_k hk, q2.1, lnA_i hro, hf.1, if_neg (fun q => absurd ((iI_lt (by omega) (by omega)).mp q) (by omega)), gI_k hk, hf.1, cv_k hk, show (1 : Int32) = iI 1 from rfl, iI_sub, show ((K ++ [e]).length : Int) - 1 = (K.length : Int) by omega, hpl, cl_s]
    have hpe := ho.1 e (by simp)
    by_cases h2 : e.1 = p
    · rw [if_pos (show iI e.1 = iI p by rw [h2]), gR_k hk, q2.1, gI_k hk, hf.1, iI_sub, show ((K ++ [e]).length : Int) - 1 = (K.length : Int) by omega, aI_iI hro (by omega) (by omega) (by omega), uI_iI hro (by omega) (by omega) (by omega), show ((K.length : Int)).toNat = K.length by omega, q4 K.length hi, hge, iI_add]
      rw [gI_k (h := s_i h r K.length _) q1.1, pI_k (h := s_i h r K.length _) q1.1]
      rw [if_pos h2]
      refine ⟨_, rfl, (tr_si q2.2.2.1).trans (tr_si q1.2.1), ⟨r, q1, ⟨q2.1, q2.2.1, q2.2.2.1, q2.2.2.2.1, q2.2.2.2.2.1, ?_⟩, ⟨?_, ?_, ?_, ?_⟩, ?_, ?_⟩, ?_, rfl⟩
      · show (K ++ [(e.1, e.2 + w)]).length ≤ h_n h r
        simp; omega
      · simp only [h_i_si, hcr, if_false, if_true, upd, hf.1]
        simp
      · simp [h_i_si, hcr, upd, hf.2.1]
      · simp only [h_i_si, hcr, if_false, if_true, upd, hf.2.2.1]
        simp only [zSum_snoc]
        rw [iI_add]
        congr 1; omega
      · exact hf.2.2.2
      · intro i hi2
        simp only [h_i_si, hrc, if_false, if_true, upd]
        by_cases hil : i = K.length
        · subst hil; simp; congr 1; omega
        · simp only [hil, if_false]
          have hi3 : i < K.length := by simp at hi2; omega
          rw [List.getElem_append_left hi3]
          have := q4 i (by omega)
          rw [List.getElem_append_left hi3] at this
          exact this
      · refine ⟨fun q hq => ?_, ?_, ho.2.2⟩
        · rcases List.mem_append.mp hq with hq | hq
          · exact ho.1 q (List.mem_append_left _ hq)
          · simp at hq; subst hq; exact ⟨hpe.1, hpe.2.1, by have := hpe.2.2; simp; omega⟩
        · rw [zSum_snoc] at hs ⊢
          simp; omega
      · rw [hcap]; exact capR_of q2.1
    · rw [if_neg (fun q => h2 ((iI_eq (by omega) (by omega)).mp q))]
      rw [if_neg h2] at hr ⊢
      exact cpush_is N hC hp (by omega) hs (by simp at hr; simp; omega)
/-- left and bottom are written -/
theorem CR.left (C : CR ρ l h c L lf bt) {v : Int} (hv : 0 ≤ v ∧ v ≤ 8000) : CR ρ l (s_i h c 2 (iI v)) c L v bt := by
  obtain ⟨r, q1, q2, q3, q4, q5⟩ := C
  have hrc : ¬ r = c := fun e => by have := q2.2.1; rw [e, q1.1] at this; cases this
  exact ⟨r, q1, q2, ⟨by simp [h_i_si, upd, q3.1], by simp [h_i_si, upd], by simp [h_i_si, upd, q3.2.2.1], q3.2.2.2⟩, fun i hi => by rw [h_i_si, if_neg hrc]; exact q4 i hi, q5.1, q5.2.1, hv, q5.2.2.2⟩
theorem CR.bottom (C : CR ρ l h c L lf bt) {v : Int} (hv : 0 ≤ v ∧ v ≤ 1000000000000) : CR ρ l (s_j h c 4 (lI v)) c L lf v := by
  obtain ⟨r, q1, q2, q3, q4, q5⟩ := C
  exact ⟨r, q1, q2, ⟨q3.1, q3.2.1, q3.2.2.1, by simp [h_j_sj, vp_updL]⟩, q4, q5.1, q5.2.1, q5.2.2.1, hv⟩
theorem CR.lab (C : CR ρ l h c L lf bt) : ρ c = l ∧ c < h_x h := by
  obtain ⟨r, q1, q2, q3, q4, q5⟩ := C
  exact q1.2
theorem cbecome_is (N : Nat) (B : CB ρ l h c) {p w f : Int} (hp : -20000 ≤ p ∧ p ≤ 20000) (hw : 0 ≤ w ∧ w ≤ 8000) (hf : 0 ≤ f ∧ f ≤ 8000) : ∃ ρ' g, f_Curve_becomeKink N h c (iI p) (iI w) (iI f) = some ((), g) ∧ tr ρ h (rg l) ρ' g ∧ CR ρ' l g c (app [] p w) f 0 ∧ hm g + rst (capR g c) ≤ hm h + rst (capR h c) := by
  obtain ⟨ρ', g, e1, e2, e3, e4, e5⟩ := cclear_is N B (room := 1) (by omega)
  obtain ⟨g2, a1, a2, a3, a4, a5⟩ := cappend_is N e3 (p := p) (w := w) hp hw.1 (by simp [zSum]; omega) (by have := (app_len [] p w).2; simp at this; omega)
  have hk : h_k h c = 3 + 1 := by obtain ⟨r, q, _⟩ := B; exact q.1
  refine ⟨ρ', s_i g2 c 2 (iI f), ?_, e2.trans (a2.trans (tr_si (a3.lab).1)), a3.left hf, ?_⟩
  · unfold f_Curve_becomeKink f_Curve_becomeKink_5
    rw [cv_k hk, show (1 : Int32) = iI ((1 : Nat) : Int) from rfl, e1, cl_s, cv_k e3.k, a1, cl_s, pI_k a3.k]
  · show hm g2 + rst (capR g2 c) ≤ _
    rw [a4, a5]; exact e5
theorem ctake_is (N : Nat) (B : CB ρ l h c) {l' o : Nat} (O : CR ρ l' h o L lf bt) (hl : l' ≠ l) : ∃ ρ' g, f_Curve_take N h c (some o) = some ((), g) ∧ tr ρ h (rg l) ρ' g ∧ CR ρ' l g c L lf bt ∧ CR ρ' l' g o L lf bt ∧ hm g + rst (capR g c) ≤ hm h + rst (capR h c) := by
  have hlen := O.len
  obtain ⟨ρ', g, e1, e2, e3, e4, e5⟩ := cclear_is N B (room := L.length) hlen
  have hk : h_k h c = 3 + 1 := by obtain ⟨r, q, _⟩ := B; exact q.1
  have O2 := O.keep e2 (fun q => hl q)
  have hfo := O2.f
  have hko := O2.k
  have hok := O2.ok
  obtain ⟨ro', p1, p2, p3, p4, p5⟩ := id O2
  obtain ⟨rc, q1, q2, q3, q4, q5⟩ := id e3
  have hcap := capR_of q2.1
  have hrr : ¬ ro' = rc := fun e => hl (by have := p2.2.2.1; rw [e, q2.2.2.1] at this; exact this.symm)
  have hoc : ¬ o = c := fun e => hl (by have := p1.2.1; rw [e, q1.2.1] at this; exact this.symm)
  have hrc : ¬ rc = c := fun e => by have := q2.2.1; rw [e, q1.1] at this; cases this
  have hro : ¬ rc = o := fun e => by have := q2.2.1; rw [e, p1.1] at this; cases this
  have hoc2 : ¬ ro' = c := fun e => by have := p2.2.1; rw [e, q1.1] at this; cases this
  have b1 := p2.2.2.2.2.1
  have b2 := p2.2.2.2.2.2
  have b3 := q2.2.2.2.2.1
  have b4 : L.length ≤ h_n g rc := by rw [← hcap]; exact e4
  have jm : jmn (iI L.length) (jmn (iI (h_n g ro')) (iI (h_n g rc))) = iI L.length := by
    rw [jmn_is (by omega) (by omega), jmn_is (by omega) (by omega)]; congr 1; omega
  have hcm : ∀ F : Nat → Int32, s_I (s_i g c 0 (iI L.length)) rc F = s_i (s_I g rc F) c 0 (iI L.length) := by
    intro F
    have : va_up (va_up g.2.2.1 c (upd (g.2.2.1 c) 0 (iI L.length))) rc F = va_up (va_up g.2.2.1 rc F) c (upd (va_up g.2.2.1 rc F c) 0 (iI L.length)) := by
      have e : va_up g.2.2.1 rc F c = g.2.2.1 c := by unfold va_up; rw [if_neg (fun e => hrc e.symm)]
      rw [e]
      funext b
      unfold va_up
      by_cases h1 : b = rc
      · rw [if_pos h1, if_neg (fun e => hrc (h1 ▸ e)), if_pos h1]
      · rw [if_neg h1]
        by_cases h2 : b = c
        · rw [if_pos h2, if_pos h2]
        · rw [if_neg h2, if_neg h2, if_neg h1]
    exact congrArg (fun z => ((g.1, g.2.1, z, g.2.2.2) : hS)) this
  unfold f_Curve_take f_Curve_take_8
  rw [gI_k (show h_k h o = 3 + 1 from O.k), O.f.1, cv_k hk, e1, cl_s, gI_k hko, hfo.1, gR_k hko, p2.1, lnA_i (h := g) ⟨p2.2.1, rfl⟩, gR_k e3.k, q2.1, lnA_i (h := g) ⟨q2.2.1, rfl⟩, jm, pI_k e3.k, gR_k (h := s_i g c 0 _) hko, gR_k (h := s_i g c 0 _) e3.k, gI_k (h := s_i g c 0 _) e3.k, show h_r (s_i g c 0 (iI L.length)) o 1 = some ro' from p2.1, show h_r (s_i g c 0 (iI L.length)) c 1 = some rc from q2.1, show h_i (s_i g c 0 (iI L.length)) c 0 = iI L.length by simp [h_i_si, upd]]
  have hcp : cpI (s_i g c 0 (iI L.length)) (some ro') (0 : Int32) (some rc) (0 : Int32) (iI L.length) = fun (F : hS → Option (Unit × hS)) => F (s_i (s_I g rc (va_cpy (h_i g ro') (h_i g rc) 0 0 L.length)) c 0 (iI L.length)) := by
    funext F
    show (if h_k g ro' = 50 ∧ h_k g rc = 50 ∧ cpOK (0 : Int32) (0 : Int32) (iI L.length) (h_n g ro') (h_n g rc) then F (s_I (s_i g c 0 (iI L.length)) rc (va_cpy (h_i (s_i g c 0 (iI L.length)) ro') (h_i (s_i g c 0 (iI L.length)) rc) (0 : Int32).toNatClampNeg (0 : Int32).toNatClampNeg (iI L.length).toNatClampNeg)) else none) = _
    rw [hcm, h_i_si, if_neg hoc2, h_i_si, if_neg hrc]
    have hcl : (iI (L.length : Int)).toNatClampNeg = L.length := by rw [← nI_iI]; exact nI_clamp (by omega)
    have h0 : (0 : Int32).toNatClampNeg = 0 := by decide
    rw [if_pos ⟨p2.2.1, q2.2.1, by decide, by decide, fun q => absurd ((iI_lt (b := 0) (by omega) (by omega)).mp q) (by omega), by rw [hcl, h0, Nat.zero_add]; exact p2.2.2.2.2.2, by rw [hcl, h0, Nat.zero_add, ← hcap]; exact e4⟩, hcl, h0]
  rw [hcp]
  simp only []
  obtain ⟨F, hF⟩ : ∃ F, F = va_cpy (h_i g ro') (h_i g rc) 0 0 L.length := ⟨_, rfl⟩
  rw [← hF]
  have hsi : ∀ b, h_i (s_I g rc F) b = if b = rc then F else h_i g b := fun b => rfl
  rw [gI_k (h := s_i (s_I g rc F) c 0 _) hko, pI_k (h := s_i (s_I g rc F) c 0 _) e3.k, gI_k (h := s_i (s_i (s_I g rc F) c 0 _) c 2 _) hko, pI_k (h := s_i (s_i (s_I g rc F) c 0 _) c 2 _) e3.k, gJ_k (h := s_i (s_i (s_i (s_I g rc F) c 0 _) c 2 _) c 3 _) hko, pJ_k (h := s_i (s_i (s_i (s_I g rc F) c 0 _) c 2 _) c 3 _) e3.k]
  have hor : ¬ o = rc := fun e => hro e.symm
  have hcr : ¬ c = rc := fun e => hrc e.symm
  have T : tr ρ' g (rg l) ρ' (s_j (s_i (s_i (s_i (s_I g rc F) c 0 (iI L.length)) c 2 (iI lf)) c 3 (iI (zSum L))) c 4 (lI bt)) := (tr_sI q2.2.2.1).trans ((tr_si q1.2.1).trans ((tr_si q1.2.1).trans ((tr_si q1.2.1).trans (tr_sj q1.2.1))))
  have E : some ((), s_j (s_i (s_i (s_i (s_I g rc F) c 0 (iI L.length)) c 2 (h_i (s_i (s_I g rc F) c 0 (iI L.length)) o 2)) c 3 (h_i (s_i (s_i (s_I g rc F) c 0 (iI L.length)) c 2 (h_i (s_i (s_I g rc F) c 0 (iI L.length)) o 2)) o 3)) c 4 (h_j (s_i (s_i (s_i (s_I g rc F) c 0 (iI L.length)) c 2 (h_i (s_i (s_I g rc F) c 0 (iI L.length)) o 2)) c 3 (h_i (s_i (s_i (s_I g rc F) c 0 (iI L.length)) c 2 (h_i (s_i (s_I g rc F) c 0 (iI L.length)) o 2)) o 3)) o 4)) = some ((), s_j (s_i (s_i (s_i (s_I g rc F) c 0 (iI L.length)) c 2 (iI lf)) c 3 (iI (zSum L))) c 4 (lI bt)) := by
    simp only [h_i_si, h_j_si, hoc, if_false, hsi, hor, hfo.2.1, hfo.2.2.1, show h_j (s_I g rc F) o 4 = lI bt from hfo.2.2.2]
  refine ⟨ρ', _, E, e2.trans T, ⟨rc, q1, ⟨q2.1, q2.2.1, q2.2.2.1, q2.2.2.2.1, q2.2.2.2.2.1, ?_⟩, ⟨?_, ?_, ?_, ?_⟩, ?_, hok⟩, O2.keep T (fun q => hl q), ?_⟩
  · show L.length ≤ h_n g rc
    rw [← hcap]; exact e4
  · simp [h_i_si, h_i_sj, hsi, hcr, upd]
  · simp [h_i_si, h_i_sj, hsi, hcr, upd]
  · simp [h_i_si, h_i_sj, hsi, hcr, upd]
  · simp [h_j_sj, vp_updL]
  · intro i hi
    simp only [h_i_si, h_i_sj, hsi, hrc, if_false, if_true]
    rw [hF]
    unfold va_cpy
    rw [if_pos ⟨Nat.zero_le _, by omega⟩, show 0 + (i - 0) = i by omega]
    exact p4 i hi
  · have : capR (s_j (s_i (s_i (s_i (s_I g rc F) c 0 (iI L.length)) c 2 (iI lf)) c 3 (iI (zSum L))) c 4 (lI bt)) c = capR g c := by
      rw [hcap]; exact capR_of q2.1
    rw [this]; exact e5
end
